def q_x_smith (T : Nat → ClassId) (o : Nat) (i : Int32) (wh : Int32) (n0 : Nat) (s0 : Nat) (im : Nat) (iz : Nat) (rw : Nat) (t0 : Nat) (u0 : Nat) (h0 : Nat) (y0 : Nat) (sv : Value) (nn : Nat) (nm : Int32) (nl : Int32) (no : Int32) (nu : Int32) (n1 : Nat) (n2 : Nat) (n3 : Nat) (n4 : Nat) (n5 : Nat) (n6 : Nat) (n7 : Nat) (n8 : Nat) (n9 : Nat) (n10 : Nat) (nf1 : Nat → Int32) (nf2 : Nat → Int32) (nf3 : Nat → Int32) (nf4 : Nat → Int32) (nf5 : Nat → Int32) (nf6 : Nat → Int32) (nf7 : Nat → Int32) (nf8 : Nat → Int32) (nf9 : Nat → Int32) : Option Value → va_W → Prop := fun rr ww => (∃ (z : Int32), rr = some (.int z) ∧ ww = [(o, .inr (7, [.ref n0, .ref s0, .ref im, .ref iz, .ref rw, .ref t0, .ref u0, .ref h0, .ref y0, sv])), (n0, .inr (5, [.int (nI nn), .int nm, .int nl, .int no, .int nu, .ref n1, .ref n2, .ref n3, .ref n4, .ref n5, .ref n6, .ref n7, .ref n8, .ref n9, .ref n10])), (n1, .inl (T 0, 10, .inl nf1)), (n2, .inl (T 0, 10, .inl nf2)), (n3, .inl (T 0, 10, .inl nf3)), (n4, .inl (T 0, 10, .inl nf4)), (n5, .inl (T 0, 10, .inl nf5)), (n6, .inl (T 0, 10, .inl nf6)), (n7, .inl (T 0, 10, .inl nf7)), (n8, .inl (T 0, 10, .inl nf8)), (n9, .inl (T 0, 10, .inl nf9))])
set_option maxHeartbeats 4000000 in
set_option maxRecDepth 100000 in
theorem x_smith (l : Launch) (D : va_G) (T : Nat → ClassId) (o : Nat) (i : Int32) (wh : Int32) (n0 : Nat) (s0 : Nat) (im : Nat) (iz : Nat) (rw : Nat) (t0 : Nat) (u0 : Nat) (h0 : Nat) (y0 : Nat) (sv : Value) (nn : Nat) (nm : Int32) (nl : Int32) (no : Int32) (nu : Int32) (n1 : Nat) (n2 : Nat) (n3 : Nat) (n4 : Nat) (n5 : Nat) (n6 : Nat) (n7 : Nat) (n8 : Nat) (n9 : Nat) (n10 : Nat) (nf1 : Nat → Int32) (nf2 : Nat → Int32) (nf3 : Nat → Int32) (nf4 : Nat → Int32) (nf5 : Nat → Int32) (nf6 : Nat → Int32) (nf7 : Nat → Int32) (nf8 : Nat → Int32) (nf9 : Nat → Int32) (h_n : nn ≤ 10) : Ct l yX7_smith cX7_smith 3 (some .int) 1 0 0 D T [.ref o, .int i, .int wh] [(o, .inr (7, [.ref n0, .ref s0, .ref im, .ref iz, .ref rw, .ref t0, .ref u0, .ref h0, .ref y0, sv])), (n0, .inr (5, [.int (nI nn), .int nm, .int nl, .int no, .int nu, .ref n1, .ref n2, .ref n3, .ref n4, .ref n5, .ref n6, .ref n7, .ref n8, .ref n9, .ref n10])), (n1, .inl (T 0, 10, .inl nf1)), (n2, .inl (T 0, 10, .inl nf2)), (n3, .inl (T 0, 10, .inl nf3)), (n4, .inl (T 0, 10, .inl nf4)), (n5, .inl (T 0, 10, .inl nf5)), (n6, .inl (T 0, 10, .inl nf6)), (n7, .inl (T 0, 10, .inl nf7)), (n8, .inl (T 0, 10, .inl nf8)), (n9, .inl (T 0, 10, .inl nf9))] (q_x_smith T o i wh n0 s0 im iz rw t0 u0 h0 y0 sv nn nm nl no nu n1 n2 n3 n4 n5 n6 n7 n8 n9 n10 nf1 nf2 nf3 nf4 nf5 nf6 nf7 nf8 nf9) := by
  refine Ct.of (cc := cX7_smith) (maxL := 3) (ret := (some .int)) (by decide) (Nat.le_of_ble_eq_true rfl) ?_
  intro p e s m args below meth c A ls hC hnm V hl
  obtain ⟨hx, hb, hr, hml, hown, hts, hlocks⟩ := id hC
  generalize hH : s.heap = H at V ⊢
  clear hH
  have hl : lv_has ls 3 [(0, .ref o), (1, .int i), (2, .int wh)] := hl
  generalize hlo : ([] : List Loc) = locs at V ⊢
  clear hlo
  refine lv_aload_n hx hb dX7_smith_0 rfl (lv_at hl 0 rfl) ?_
  refine g_get hC V (ci := 7) uwX7 0 rfl rfl 0 (by decide) w_249 rfl rfl dX7_smith_1 ?_
  refine lv_iload_n hx hb dX7_smith_4 rfl (lv_at hl 1 rfl) ?_
  refine g_callVU (nA := 1) hC V hl.1 (s_isSmith l D T n0 i nn nm nl no nu n1 n2 n3 n4 n5 n6 n7 n8 n9 n10 (by first | assumption | omega)) w_425 w_426 w_427 w_3 w_428 (by decide +kernel) rfl ⟨(Nat.le_of_ble_eq_true rfl), (Nat.le_of_ble_eq_true rfl)⟩ 1 (ci := 5) rfl rfl [1] rfl rfl (Nat.le_of_ble_eq_true rfl) dX7_smith_5 ⟨(Nat.le_of_ble_eq_true rfl), (Nat.le_of_ble_eq_true rfl)⟩ rfl (fun r w1 H locs hQ V => ?_)
  rcases hQ with ⟨j_1, rfl, rfl, f_2, f_3⟩ | ⟨rfl, rfl, f_4⟩
  · have V : gW D T A s [(o, .inr (7, [.ref n0, .ref s0, .ref im, .ref iz, .ref rw, .ref t0, .ref u0, .ref h0, .ref y0, sv])), (n0, .inr (5, [.int (nI nn), .int nm, .int nl, .int no, .int nu, .ref n1, .ref n2, .ref n3, .ref n4, .ref n5, .ref n6, .ref n7, .ref n8, .ref n9, .ref n10])), (n1, .inl (T 0, 10, .inl nf1)), (n2, .inl (T 0, 10, .inl nf2)), (n3, .inl (T 0, 10, .inl nf3)), (n4, .inl (T 0, 10, .inl nf4)), (n5, .inl (T 0, 10, .inl nf5)), (n6, .inl (T 0, 10, .inl nf6)), (n7, .inl (T 0, 10, .inl nf7)), (n8, .inl (T 0, 10, .inl nf8)), (n9, .inl (T 0, 10, .inl nf9))] H locs := V _ [1] rfl rfl rfl (by decide +kernel) rfl
    show W p l e _ s m args below meth c H locs _ _ _ (F0 m 8 ls [.int (nI 1)])
    rw [f_2] at hl
    refine lv_if_ne (tgt := 14) hx hb dX7_smith_8 (by decide) (fun _ => ?_) (fun c => absurd (show (nI 1) = 0 from c) (by decide +kernel))
    refine lv_iload_n hx hb dX7_smith_14 rfl (lv_at hl 2 rfl) ?_
    by_cases c_50 : wh = (nI 0)
    · skip
      refine lv_tableIn (tgt := 68) (off := 53) hx hb dX7_smith_15 (by first | decide +kernel | (rw [c_50]; decide +kernel)) (by first | decide +kernel | (rw [c_50]; decide +kernel)) (by first | decide +kernel | (rw [c_50]; decide +kernel)) (by decide) ?_
      refine lv_aload_n hx hb dX7_smith_68 rfl (lv_at hl 0 rfl) ?_
      refine g_get hC V (ci := 7) uwX7 0 rfl rfl 0 (by decide) w_249 rfl rfl dX7_smith_69 ?_
      refine g_get hC V (ci := 5) uwX5 1 rfl rfl 5 (by decide) w_54 rfl rfl dX7_smith_72 ?_
      refine lv_iload_n hx hb dX7_smith_75 rfl (lv_at hl 1 rfl) ?_
      refine g_iald hC V 2 rfl (vp_in_nI (by omega) (by omega)) (v := (nf1 j_1)) (congrArg _ (nI_clamp (by omega))) dX7_smith_76 ?_
      exact g_iret (Qr := (q_x_smith T o i wh n0 s0 im iz rw t0 u0 h0 y0 sv nn nm nl no nu n1 n2 n3 n4 n5 n6 n7 n8 n9 n10 nf1 nf2 nf3 nf4 nf5 nf6 nf7 nf8 nf9)) hC V ⟨(Nat.le_of_ble_eq_true rfl), (Nat.le_of_ble_eq_true rfl)⟩ ⟨(nf1 j_1), rfl, rfl⟩ dX7_smith_77
    by_cases c_51 : wh = (nI 1)
    · skip
      refine lv_tableIn (tgt := 78) (off := 63) hx hb dX7_smith_15 (by first | decide +kernel | (rw [c_51]; decide +kernel)) (by first | decide +kernel | (rw [c_51]; decide +kernel)) (by first | decide +kernel | (rw [c_51]; decide +kernel)) (by decide) ?_
      refine lv_aload_n hx hb dX7_smith_78 rfl (lv_at hl 0 rfl) ?_
      refine g_get hC V (ci := 7) uwX7 0 rfl rfl 0 (by decide) w_249 rfl rfl dX7_smith_79 ?_
      refine g_get hC V (ci := 5) uwX5 1 rfl rfl 6 (by decide) w_60 rfl rfl dX7_smith_82 ?_
      refine lv_iload_n hx hb dX7_smith_85 rfl (lv_at hl 1 rfl) ?_
      refine g_iald hC V 3 rfl (vp_in_nI (by omega) (by omega)) (v := (nf2 j_1)) (congrArg _ (nI_clamp (by omega))) dX7_smith_86 ?_
      exact g_iret (Qr := (q_x_smith T o i wh n0 s0 im iz rw t0 u0 h0 y0 sv nn nm nl no nu n1 n2 n3 n4 n5 n6 n7 n8 n9 n10 nf1 nf2 nf3 nf4 nf5 nf6 nf7 nf8 nf9)) hC V ⟨(Nat.le_of_ble_eq_true rfl), (Nat.le_of_ble_eq_true rfl)⟩ ⟨(nf2 j_1), rfl, rfl⟩ dX7_smith_87
    by_cases c_52 : wh = (nI 2)
    · skip
      refine lv_tableIn (tgt := 88) (off := 73) hx hb dX7_smith_15 (by first | decide +kernel | (rw [c_52]; decide +kernel)) (by first | decide +kernel | (rw [c_52]; decide +kernel)) (by first | decide +kernel | (rw [c_52]; decide +kernel)) (by decide) ?_
      refine lv_aload_n hx hb dX7_smith_88 rfl (lv_at hl 0 rfl) ?_
      refine g_get hC V (ci := 7) uwX7 0 rfl rfl 0 (by decide) w_249 rfl rfl dX7_smith_89 ?_
      refine g_get hC V (ci := 5) uwX5 1 rfl rfl 7 (by decide) w_65 rfl rfl dX7_smith_92 ?_
      refine lv_iload_n hx hb dX7_smith_95 rfl (lv_at hl 1 rfl) ?_
      refine g_iald hC V 4 rfl (vp_in_nI (by omega) (by omega)) (v := (nf3 j_1)) (congrArg _ (nI_clamp (by omega))) dX7_smith_96 ?_
      exact g_iret (Qr := (q_x_smith T o i wh n0 s0 im iz rw t0 u0 h0 y0 sv nn nm nl no nu n1 n2 n3 n4 n5 n6 n7 n8 n9 n10 nf1 nf2 nf3 nf4 nf5 nf6 nf7 nf8 nf9)) hC V ⟨(Nat.le_of_ble_eq_true rfl), (Nat.le_of_ble_eq_true rfl)⟩ ⟨(nf3 j_1), rfl, rfl⟩ dX7_smith_97
    by_cases c_53 : wh = (nI 3)
    · skip
      refine lv_tableIn (tgt := 98) (off := 83) hx hb dX7_smith_15 (by first | decide +kernel | (rw [c_53]; decide +kernel)) (by first | decide +kernel | (rw [c_53]; decide +kernel)) (by first | decide +kernel | (rw [c_53]; decide +kernel)) (by decide) ?_
      refine lv_aload_n hx hb dX7_smith_98 rfl (lv_at hl 0 rfl) ?_
      refine g_get hC V (ci := 7) uwX7 0 rfl rfl 0 (by decide) w_249 rfl rfl dX7_smith_99 ?_
      refine g_get hC V (ci := 5) uwX5 1 rfl rfl 8 (by decide) w_69 rfl rfl dX7_smith_102 ?_
      refine lv_iload_n hx hb dX7_smith_105 rfl (lv_at hl 1 rfl) ?_
      refine g_iald hC V 5 rfl (vp_in_nI (by omega) (by omega)) (v := (nf4 j_1)) (congrArg _ (nI_clamp (by omega))) dX7_smith_106 ?_
      exact g_iret (Qr := (q_x_smith T o i wh n0 s0 im iz rw t0 u0 h0 y0 sv nn nm nl no nu n1 n2 n3 n4 n5 n6 n7 n8 n9 n10 nf1 nf2 nf3 nf4 nf5 nf6 nf7 nf8 nf9)) hC V ⟨(Nat.le_of_ble_eq_true rfl), (Nat.le_of_ble_eq_true rfl)⟩ ⟨(nf4 j_1), rfl, rfl⟩ dX7_smith_107
    by_cases c_54 : wh = (nI 4)
    · skip
      refine lv_tableIn (tgt := 108) (off := 93) hx hb dX7_smith_15 (by first | decide +kernel | (rw [c_54]; decide +kernel)) (by first | decide +kernel | (rw [c_54]; decide +kernel)) (by first | decide +kernel | (rw [c_54]; decide +kernel)) (by decide) ?_
      refine lv_aload_n hx hb dX7_smith_108 rfl (lv_at hl 0 rfl) ?_
      refine g_get hC V (ci := 7) uwX7 0 rfl rfl 0 (by decide) w_249 rfl rfl dX7_smith_109 ?_
      refine g_get hC V (ci := 5) uwX5 1 rfl rfl 9 (by decide) w_72 rfl rfl dX7_smith_112 ?_
      refine lv_iload_n hx hb dX7_smith_115 rfl (lv_at hl 1 rfl) ?_
      refine g_iald hC V 6 rfl (vp_in_nI (by omega) (by omega)) (v := (nf5 j_1)) (congrArg _ (nI_clamp (by omega))) dX7_smith_116 ?_
      exact g_iret (Qr := (q_x_smith T o i wh n0 s0 im iz rw t0 u0 h0 y0 sv nn nm nl no nu n1 n2 n3 n4 n5 n6 n7 n8 n9 n10 nf1 nf2 nf3 nf4 nf5 nf6 nf7 nf8 nf9)) hC V ⟨(Nat.le_of_ble_eq_true rfl), (Nat.le_of_ble_eq_true rfl)⟩ ⟨(nf5 j_1), rfl, rfl⟩ dX7_smith_117
    by_cases c_55 : wh = (nI 5)
    · skip
      refine lv_tableIn (tgt := 118) (off := 103) hx hb dX7_smith_15 (by first | decide +kernel | (rw [c_55]; decide +kernel)) (by first | decide +kernel | (rw [c_55]; decide +kernel)) (by first | decide +kernel | (rw [c_55]; decide +kernel)) (by decide) ?_
      refine lv_aload_n hx hb dX7_smith_118 rfl (lv_at hl 0 rfl) ?_
      refine g_get hC V (ci := 7) uwX7 0 rfl rfl 0 (by decide) w_249 rfl rfl dX7_smith_119 ?_
      refine g_get hC V (ci := 5) uwX5 1 rfl rfl 10 (by decide) w_76 rfl rfl dX7_smith_122 ?_
      refine lv_iload_n hx hb dX7_smith_125 rfl (lv_at hl 1 rfl) ?_
      refine g_iald hC V 7 rfl (vp_in_nI (by omega) (by omega)) (v := (nf6 j_1)) (congrArg _ (nI_clamp (by omega))) dX7_smith_126 ?_
      exact g_iret (Qr := (q_x_smith T o i wh n0 s0 im iz rw t0 u0 h0 y0 sv nn nm nl no nu n1 n2 n3 n4 n5 n6 n7 n8 n9 n10 nf1 nf2 nf3 nf4 nf5 nf6 nf7 nf8 nf9)) hC V ⟨(Nat.le_of_ble_eq_true rfl), (Nat.le_of_ble_eq_true rfl)⟩ ⟨(nf6 j_1), rfl, rfl⟩ dX7_smith_127
    by_cases c_56 : wh = (nI 6)
    · skip
      refine lv_tableIn (tgt := 128) (off := 113) hx hb dX7_smith_15 (by first | decide +kernel | (rw [c_56]; decide +kernel)) (by first | decide +kernel | (rw [c_56]; decide +kernel)) (by first | decide +kernel | (rw [c_56]; decide +kernel)) (by decide) ?_
      refine lv_aload_n hx hb dX7_smith_128 rfl (lv_at hl 0 rfl) ?_
      refine g_get hC V (ci := 7) uwX7 0 rfl rfl 0 (by decide) w_249 rfl rfl dX7_smith_129 ?_
      refine g_get hC V (ci := 5) uwX5 1 rfl rfl 11 (by decide) w_79 rfl rfl dX7_smith_132 ?_
      refine lv_iload_n hx hb dX7_smith_135 rfl (lv_at hl 1 rfl) ?_
      refine g_iald hC V 8 rfl (vp_in_nI (by omega) (by omega)) (v := (nf7 j_1)) (congrArg _ (nI_clamp (by omega))) dX7_smith_136 ?_
      exact g_iret (Qr := (q_x_smith T o i wh n0 s0 im iz rw t0 u0 h0 y0 sv nn nm nl no nu n1 n2 n3 n4 n5 n6 n7 n8 n9 n10 nf1 nf2 nf3 nf4 nf5 nf6 nf7 nf8 nf9)) hC V ⟨(Nat.le_of_ble_eq_true rfl), (Nat.le_of_ble_eq_true rfl)⟩ ⟨(nf7 j_1), rfl, rfl⟩ dX7_smith_137
    by_cases c_57 : wh = (nI 7)
    · skip
      refine lv_tableIn (tgt := 138) (off := 123) hx hb dX7_smith_15 (by first | decide +kernel | (rw [c_57]; decide +kernel)) (by first | decide +kernel | (rw [c_57]; decide +kernel)) (by first | decide +kernel | (rw [c_57]; decide +kernel)) (by decide) ?_
      refine lv_aload_n hx hb dX7_smith_138 rfl (lv_at hl 0 rfl) ?_
      refine g_get hC V (ci := 7) uwX7 0 rfl rfl 0 (by decide) w_249 rfl rfl dX7_smith_139 ?_
      refine g_get hC V (ci := 5) uwX5 1 rfl rfl 12 (by decide) w_81 rfl rfl dX7_smith_142 ?_
      refine lv_iload_n hx hb dX7_smith_145 rfl (lv_at hl 1 rfl) ?_
      refine g_iald hC V 9 rfl (vp_in_nI (by omega) (by omega)) (v := (nf8 j_1)) (congrArg _ (nI_clamp (by omega))) dX7_smith_146 ?_
      exact g_iret (Qr := (q_x_smith T o i wh n0 s0 im iz rw t0 u0 h0 y0 sv nn nm nl no nu n1 n2 n3 n4 n5 n6 n7 n8 n9 n10 nf1 nf2 nf3 nf4 nf5 nf6 nf7 nf8 nf9)) hC V ⟨(Nat.le_of_ble_eq_true rfl), (Nat.le_of_ble_eq_true rfl)⟩ ⟨(nf8 j_1), rfl, rfl⟩ dX7_smith_147
    by_cases c_58 : wh = (nI 8)
    · skip
      refine lv_tableIn (tgt := 148) (off := 133) hx hb dX7_smith_15 (by first | decide +kernel | (rw [c_58]; decide +kernel)) (by first | decide +kernel | (rw [c_58]; decide +kernel)) (by first | decide +kernel | (rw [c_58]; decide +kernel)) (by decide) ?_
      refine lv_aload_n hx hb dX7_smith_148 rfl (lv_at hl 0 rfl) ?_
      refine g_get hC V (ci := 7) uwX7 0 rfl rfl 0 (by decide) w_249 rfl rfl dX7_smith_149 ?_
      refine g_get hC V (ci := 5) uwX5 1 rfl rfl 13 (by decide) w_84 rfl rfl dX7_smith_152 ?_
      refine lv_iload_n hx hb dX7_smith_155 rfl (lv_at hl 1 rfl) ?_
      refine g_iald hC V 10 rfl (vp_in_nI (by omega) (by omega)) (v := (nf9 j_1)) (congrArg _ (nI_clamp (by omega))) dX7_smith_156 ?_
      exact g_iret (Qr := (q_x_smith T o i wh n0 s0 im iz rw t0 u0 h0 y0 sv nn nm nl no nu n1 n2 n3 n4 n5 n6 n7 n8 n9 n10 nf1 nf2 nf3 nf4 nf5 nf6 nf7 nf8 nf9)) hC V ⟨(Nat.le_of_ble_eq_true rfl), (Nat.le_of_ble_eq_true rfl)⟩ ⟨(nf9 j_1), rfl, rfl⟩ dX7_smith_157
    by_cases c_59 : wh = (nI 9)
    · skip
      refine lv_tableIn (tgt := 158) (off := 143) hx hb dX7_smith_15 (by first | decide +kernel | (rw [c_59]; decide +kernel)) (by first | decide +kernel | (rw [c_59]; decide +kernel)) (by first | decide +kernel | (rw [c_59]; decide +kernel)) (by decide) ?_
      refine lv_aload_n hx hb dX7_smith_158 rfl (lv_at hl 0 rfl) ?_
      refine g_get hC V (ci := 7) uwX7 0 rfl rfl 0 (by decide) w_249 rfl rfl dX7_smith_159 ?_
      refine lv_iload_n hx hb dX7_smith_162 rfl (lv_at hl 1 rfl) ?_
      refine g_callVU (nA := 1) hC V hl.1 (s_isDone l D T n0 j_1 nn nm nl no nu n1 n2 n3 n4 n5 n6 n7 n8 n9 n10 nf6 nf7 (by first | assumption | omega)) w_429 w_430 w_431 w_3 w_432 (by decide +kernel) rfl ⟨(Nat.le_of_ble_eq_true rfl), (Nat.le_of_ble_eq_true rfl)⟩ 1 (ci := 5) rfl rfl [1, 7, 8] rfl rfl (Nat.le_of_ble_eq_true rfl) dX7_smith_163 ⟨(Nat.le_of_ble_eq_true rfl), (Nat.le_of_ble_eq_true rfl)⟩ rfl (fun r w1 H locs hQ V => ?_)
      rcases hQ with ⟨rfl, rfl, f_6⟩ | ⟨rfl, rfl, f_7⟩
      · have V : gW D T A s [(o, .inr (7, [.ref n0, .ref s0, .ref im, .ref iz, .ref rw, .ref t0, .ref u0, .ref h0, .ref y0, sv])), (n0, .inr (5, [.int (nI nn), .int nm, .int nl, .int no, .int nu, .ref n1, .ref n2, .ref n3, .ref n4, .ref n5, .ref n6, .ref n7, .ref n8, .ref n9, .ref n10])), (n1, .inl (T 0, 10, .inl nf1)), (n2, .inl (T 0, 10, .inl nf2)), (n3, .inl (T 0, 10, .inl nf3)), (n4, .inl (T 0, 10, .inl nf4)), (n5, .inl (T 0, 10, .inl nf5)), (n6, .inl (T 0, 10, .inl nf6)), (n7, .inl (T 0, 10, .inl nf7)), (n8, .inl (T 0, 10, .inl nf8)), (n9, .inl (T 0, 10, .inl nf9))] H locs := V _ [1, 5, 0] rfl rfl rfl (by decide +kernel) rfl
        show W p l e _ s m args below meth c H locs _ _ _ (F0 m 166 ls [.int (nI 1)])
        refine lv_if_eq (tgt := 173) hx hb dX7_smith_166 (by decide) (fun c => absurd (show (nI 1) = 0 from c) (by decide +kernel)) (fun _ => ?_)
        refine lv_iconst (v := (nI 1)) hx hb dX7_smith_169 (by decide +kernel) ?_
        refine lv_goto (tgt := 174) hx hb dX7_smith_170 (by decide) ?_
        exact g_iret (Qr := (q_x_smith T o i wh n0 s0 im iz rw t0 u0 h0 y0 sv nn nm nl no nu n1 n2 n3 n4 n5 n6 n7 n8 n9 n10 nf1 nf2 nf3 nf4 nf5 nf6 nf7 nf8 nf9)) hC V ⟨(Nat.le_of_ble_eq_true rfl), (Nat.le_of_ble_eq_true rfl)⟩ ⟨(nI 1), rfl, rfl⟩ dX7_smith_174
      · have V : gW D T A s [(o, .inr (7, [.ref n0, .ref s0, .ref im, .ref iz, .ref rw, .ref t0, .ref u0, .ref h0, .ref y0, sv])), (n0, .inr (5, [.int (nI nn), .int nm, .int nl, .int no, .int nu, .ref n1, .ref n2, .ref n3, .ref n4, .ref n5, .ref n6, .ref n7, .ref n8, .ref n9, .ref n10])), (n1, .inl (T 0, 10, .inl nf1)), (n2, .inl (T 0, 10, .inl nf2)), (n3, .inl (T 0, 10, .inl nf3)), (n4, .inl (T 0, 10, .inl nf4)), (n5, .inl (T 0, 10, .inl nf5)), (n6, .inl (T 0, 10, .inl nf6)), (n7, .inl (T 0, 10, .inl nf7)), (n8, .inl (T 0, 10, .inl nf8)), (n9, .inl (T 0, 10, .inl nf9))] H locs := V _ [1, 5, 0] rfl rfl rfl (by decide +kernel) rfl
        show W p l e _ s m args below meth c H locs _ _ _ (F0 m 166 ls [.int (nI 0)])
        refine lv_if_eq (tgt := 173) hx hb dX7_smith_166 (by decide) (fun _ => ?_) (fun c => absurd (show (nI 0) = 0 by decide +kernel) c)
        refine lv_iconst (v := (nI 0)) hx hb dX7_smith_173 (by decide +kernel) ?_
        exact g_iret (Qr := (q_x_smith T o i wh n0 s0 im iz rw t0 u0 h0 y0 sv nn nm nl no nu n1 n2 n3 n4 n5 n6 n7 n8 n9 n10 nf1 nf2 nf3 nf4 nf5 nf6 nf7 nf8 nf9)) hC V ⟨(Nat.le_of_ble_eq_true rfl), (Nat.le_of_ble_eq_true rfl)⟩ ⟨(nI 0), rfl, rfl⟩ dX7_smith_174
    refine lv_tableOut (tgt := 175) hx hb dX7_smith_15 (g_out 0 9 (fun k h1 h2 => ?_)) (by decide) ?_
    · intro h
      have h3 : k = 0 ∨ k = 1 ∨ k = 2 ∨ k = 3 ∨ k = 4 ∨ k = 5 ∨ k = 6 ∨ k = 7 ∨ k = 8 ∨ k = 9 := by omega
      rcases h3 with rfl | rfl | rfl | rfl | rfl | rfl | rfl | rfl | rfl | rfl
      · exact c_50 (g_out2 h (by decide +kernel))
      · exact c_51 (g_out2 h (by decide +kernel))
      · exact c_52 (g_out2 h (by decide +kernel))
      · exact c_53 (g_out2 h (by decide +kernel))
      · exact c_54 (g_out2 h (by decide +kernel))
      · exact c_55 (g_out2 h (by decide +kernel))
      · exact c_56 (g_out2 h (by decide +kernel))
      · exact c_57 (g_out2 h (by decide +kernel))
      · exact c_58 (g_out2 h (by decide +kernel))
      · exact c_59 (g_out2 h (by decide +kernel))
    refine lv_bipush (v := (-2)) hx hb dX7_smith_175 (by decide +kernel) ?_
    exact g_iret (Qr := (q_x_smith T o i wh n0 s0 im iz rw t0 u0 h0 y0 sv nn nm nl no nu n1 n2 n3 n4 n5 n6 n7 n8 n9 n10 nf1 nf2 nf3 nf4 nf5 nf6 nf7 nf8 nf9)) hC V ⟨(Nat.le_of_ble_eq_true rfl), (Nat.le_of_ble_eq_true rfl)⟩ ⟨(-2), rfl, rfl⟩ dX7_smith_177
  · have V : gW D T A s [(o, .inr (7, [.ref n0, .ref s0, .ref im, .ref iz, .ref rw, .ref t0, .ref u0, .ref h0, .ref y0, sv])), (n0, .inr (5, [.int (nI nn), .int nm, .int nl, .int no, .int nu, .ref n1, .ref n2, .ref n3, .ref n4, .ref n5, .ref n6, .ref n7, .ref n8, .ref n9, .ref n10])), (n1, .inl (T 0, 10, .inl nf1)), (n2, .inl (T 0, 10, .inl nf2)), (n3, .inl (T 0, 10, .inl nf3)), (n4, .inl (T 0, 10, .inl nf4)), (n5, .inl (T 0, 10, .inl nf5)), (n6, .inl (T 0, 10, .inl nf6)), (n7, .inl (T 0, 10, .inl nf7)), (n8, .inl (T 0, 10, .inl nf8)), (n9, .inl (T 0, 10, .inl nf9))] H locs := V _ [1] rfl rfl rfl (by decide +kernel) rfl
    show W p l e _ s m args below meth c H locs _ _ _ (F0 m 8 ls [.int (nI 0)])
    refine lv_if_ne (tgt := 14) hx hb dX7_smith_8 (by decide) (fun c => absurd (show (nI 0) = 0 by decide +kernel) c) (fun _ => ?_)
    refine lv_bipush (v := (-2)) hx hb dX7_smith_11 (by decide +kernel) ?_
    exact g_iret (Qr := (q_x_smith T o i wh n0 s0 im iz rw t0 u0 h0 y0 sv nn nm nl no nu n1 n2 n3 n4 n5 n6 n7 n8 n9 n10 nf1 nf2 nf3 nf4 nf5 nf6 nf7 nf8 nf9)) hC V ⟨(Nat.le_of_ble_eq_true rfl), (Nat.le_of_ble_eq_true rfl)⟩ ⟨(-2), rfl, rfl⟩ dX7_smith_13

def q_x_blowers (T : Nat → ClassId) (o : Nat) (i : Int32) (n0 : Nat) (s0 : Nat) (im : Nat) (iz : Nat) (rw : Nat) (t0 : Nat) (u0 : Nat) (h0 : Nat) (y0 : Nat) (sv : Value) (nn : Nat) (nm : Int32) (nl : Int32) (no : Int32) (nu : Int32) (n1 : Nat) (n2 : Nat) (n3 : Nat) (n4 : Nat) (n5 : Nat) (n6 : Nat) (n7 : Nat) (n8 : Nat) (n9 : Nat) (n10 : Nat) (nf9 : Nat → Int32) : Option Value → va_W → Prop := fun rr ww => (∃ (z : Int32), rr = some (.int z) ∧ ww = [(o, .inr (7, [.ref n0, .ref s0, .ref im, .ref iz, .ref rw, .ref t0, .ref u0, .ref h0, .ref y0, sv])), (n0, .inr (5, [.int (nI nn), .int nm, .int nl, .int no, .int nu, .ref n1, .ref n2, .ref n3, .ref n4, .ref n5, .ref n6, .ref n7, .ref n8, .ref n9, .ref n10])), (n9, .inl (T 0, 10, .inl nf9))])
set_option maxHeartbeats 4000000 in
set_option maxRecDepth 100000 in
theorem x_blowers (l : Launch) (D : va_G) (T : Nat → ClassId) (o : Nat) (i : Int32) (n0 : Nat) (s0 : Nat) (im : Nat) (iz : Nat) (rw : Nat) (t0 : Nat) (u0 : Nat) (h0 : Nat) (y0 : Nat) (sv : Value) (nn : Nat) (nm : Int32) (nl : Int32) (no : Int32) (nu : Int32) (n1 : Nat) (n2 : Nat) (n3 : Nat) (n4 : Nat) (n5 : Nat) (n6 : Nat) (n7 : Nat) (n8 : Nat) (n9 : Nat) (n10 : Nat) (nf9 : Nat → Int32) (h_n : nn ≤ 10) : Ct l yX7_blowers cX7_blowers 2 (some .int) 1 0 0 D T [.ref o, .int i] [(o, .inr (7, [.ref n0, .ref s0, .ref im, .ref iz, .ref rw, .ref t0, .ref u0, .ref h0, .ref y0, sv])), (n0, .inr (5, [.int (nI nn), .int nm, .int nl, .int no, .int nu, .ref n1, .ref n2, .ref n3, .ref n4, .ref n5, .ref n6, .ref n7, .ref n8, .ref n9, .ref n10])), (n9, .inl (T 0, 10, .inl nf9))] (q_x_blowers T o i n0 s0 im iz rw t0 u0 h0 y0 sv nn nm nl no nu n1 n2 n3 n4 n5 n6 n7 n8 n9 n10 nf9) := by
  refine Ct.of (cc := cX7_blowers) (maxL := 2) (ret := (some .int)) (by decide) (Nat.le_of_ble_eq_true rfl) ?_
  intro p e s m args below meth c A ls hC hnm V hl
  obtain ⟨hx, hb, hr, hml, hown, hts, hlocks⟩ := id hC
  generalize hH : s.heap = H at V ⊢
  clear hH
  have hl : lv_has ls 2 [(0, .ref o), (1, .int i)] := hl
  generalize hlo : ([] : List Loc) = locs at V ⊢
  clear hlo
  refine lv_aload_n hx hb dX7_blowers_0 rfl (lv_at hl 0 rfl) ?_
  refine g_get hC V (ci := 7) uwX7 0 rfl rfl 0 (by decide) w_249 rfl rfl dX7_blowers_1 ?_
  refine lv_iload_n hx hb dX7_blowers_4 rfl (lv_at hl 1 rfl) ?_
  refine g_callVU (nA := 1) hC V hl.1 (s_isSmith l D T n0 i nn nm nl no nu n1 n2 n3 n4 n5 n6 n7 n8 n9 n10 (by first | assumption | omega)) w_425 w_426 w_427 w_3 w_428 (by decide +kernel) rfl ⟨(Nat.le_of_ble_eq_true rfl), (Nat.le_of_ble_eq_true rfl)⟩ 1 (ci := 5) rfl rfl [1] rfl rfl (Nat.le_of_ble_eq_true rfl) dX7_blowers_5 ⟨(Nat.le_of_ble_eq_true rfl), (Nat.le_of_ble_eq_true rfl)⟩ rfl (fun r w1 H locs hQ V => ?_)
  rcases hQ with ⟨j_1, rfl, rfl, f_2, f_3⟩ | ⟨rfl, rfl, f_4⟩
  · have V : gW D T A s [(o, .inr (7, [.ref n0, .ref s0, .ref im, .ref iz, .ref rw, .ref t0, .ref u0, .ref h0, .ref y0, sv])), (n0, .inr (5, [.int (nI nn), .int nm, .int nl, .int no, .int nu, .ref n1, .ref n2, .ref n3, .ref n4, .ref n5, .ref n6, .ref n7, .ref n8, .ref n9, .ref n10])), (n9, .inl (T 0, 10, .inl nf9))] H locs := V _ [1] rfl rfl rfl (by decide +kernel) rfl
    show W p l e _ s m args below meth c H locs _ _ _ (F0 m 8 ls [.int (nI 1)])
    rw [f_2] at hl
    refine lv_if_eq (tgt := 22) hx hb dX7_blowers_8 (by decide) (fun c => absurd (show (nI 1) = 0 from c) (by decide +kernel)) (fun _ => ?_)
    refine lv_aload_n hx hb dX7_blowers_11 rfl (lv_at hl 0 rfl) ?_
    refine g_get hC V (ci := 7) uwX7 0 rfl rfl 0 (by decide) w_249 rfl rfl dX7_blowers_12 ?_
    refine lv_iload_n hx hb dX7_blowers_15 rfl (lv_at hl 1 rfl) ?_
    refine g_callVU (nA := 1) hC V hl.1 (s_blowersOf l D T n0 (nI j_1) nn nm nl no nu n1 n2 n3 n4 n5 n6 n7 n8 n9 n10 nf9 (by first | assumption | omega)) w_437 w_438 w_439 w_3 w_440 (by decide +kernel) rfl ⟨(Nat.le_of_ble_eq_true rfl), (Nat.le_of_ble_eq_true rfl)⟩ 1 (ci := 5) rfl rfl [1, 2] rfl rfl (Nat.le_of_ble_eq_true rfl) dX7_blowers_16 ⟨(Nat.le_of_ble_eq_true rfl), (Nat.le_of_ble_eq_true rfl)⟩ rfl (fun r w1 H locs hQ V => ?_)
    obtain ⟨z_5, rfl, rfl⟩ := hQ
    have V : gW D T A s [(o, .inr (7, [.ref n0, .ref s0, .ref im, .ref iz, .ref rw, .ref t0, .ref u0, .ref h0, .ref y0, sv])), (n0, .inr (5, [.int (nI nn), .int nm, .int nl, .int no, .int nu, .ref n1, .ref n2, .ref n3, .ref n4, .ref n5, .ref n6, .ref n7, .ref n8, .ref n9, .ref n10])), (n9, .inl (T 0, 10, .inl nf9))] H locs := V _ [1, 0] rfl rfl rfl (by decide +kernel) rfl
    show W p l e _ s m args below meth c H locs _ _ _ (F0 m 19 ls [.int z_5])
    refine lv_goto (tgt := 24) hx hb dX7_blowers_19 (by decide) ?_
    exact g_iret (Qr := (q_x_blowers T o i n0 s0 im iz rw t0 u0 h0 y0 sv nn nm nl no nu n1 n2 n3 n4 n5 n6 n7 n8 n9 n10 nf9)) hC V ⟨(Nat.le_of_ble_eq_true rfl), (Nat.le_of_ble_eq_true rfl)⟩ ⟨z_5, rfl, rfl⟩ dX7_blowers_24
  · have V : gW D T A s [(o, .inr (7, [.ref n0, .ref s0, .ref im, .ref iz, .ref rw, .ref t0, .ref u0, .ref h0, .ref y0, sv])), (n0, .inr (5, [.int (nI nn), .int nm, .int nl, .int no, .int nu, .ref n1, .ref n2, .ref n3, .ref n4, .ref n5, .ref n6, .ref n7, .ref n8, .ref n9, .ref n10])), (n9, .inl (T 0, 10, .inl nf9))] H locs := V _ [1] rfl rfl rfl (by decide +kernel) rfl
    show W p l e _ s m args below meth c H locs _ _ _ (F0 m 8 ls [.int (nI 0)])
    refine lv_if_eq (tgt := 22) hx hb dX7_blowers_8 (by decide) (fun _ => ?_) (fun c => absurd (show (nI 0) = 0 by decide +kernel) c)
    refine lv_bipush (v := (-2)) hx hb dX7_blowers_22 (by decide +kernel) ?_
    exact g_iret (Qr := (q_x_blowers T o i n0 s0 im iz rw t0 u0 h0 y0 sv nn nm nl no nu n1 n2 n3 n4 n5 n6 n7 n8 n9 n10 nf9)) hC V ⟨(Nat.le_of_ble_eq_true rfl), (Nat.le_of_ble_eq_true rfl)⟩ ⟨(-2), rfl, rfl⟩ dX7_blowers_24

def q_x_refusedMinutes (T : Nat → ClassId) (o : Nat) (v : Int32) (M : Nat) (n0 : Nat) (s0 : Nat) (im : Nat) (iz : Nat) (rw : Nat) (t0 : Nat) (u0 : Nat) (h0 : Nat) (y0 : Nat) (sv : Value) (nn : Nat) (nm : Int32) (nl : Int32) (no : Int32) (nu : Int32) (n1 : Nat) (n2 : Nat) (n3 : Nat) (n4 : Nat) (n5 : Nat) (n6 : Nat) (n7 : Nat) (n8 : Nat) (n9 : Nat) (n10 : Nat) : Option Value → va_W → Prop := fun rr ww => (∃ (j : Nat), rr = some (.int (nI 0)) ∧ ww = [(o, .inr (7, [.ref n0, .ref s0, .ref im, .ref iz, .ref rw, .ref t0, .ref u0, .ref h0, .ref y0, sv])), (n0, .inr (5, [.int (nI nn), .int nm, .int nl, .int no, .int nu, .ref n1, .ref n2, .ref n3, .ref n4, .ref n5, .ref n6, .ref n7, .ref n8, .ref n9, .ref n10]))] ∧ 1 ≤ j ∧ j ≤ M ∧ v = nI j) ∨ (∃ (z : Int32), rr = some (.int z) ∧ ww = [(o, .inr (7, [.ref n0, .ref s0, .ref im, .ref iz, .ref rw, .ref t0, .ref u0, .ref h0, .ref y0, sv])), (n0, .inr (5, [.int (nI nn), .int nm, .int nl, .int no, .int nu, .ref n1, .ref n2, .ref n3, .ref n4, .ref n5, .ref n6, .ref n7, .ref n8, .ref n9, .ref n10]))] ∧ ¬ z = 0)
set_option maxHeartbeats 4000000 in
set_option maxRecDepth 100000 in
theorem x_refusedMinutes (l : Launch) (D : va_G) (T : Nat → ClassId) (o : Nat) (v : Int32) (M : Nat) (n0 : Nat) (s0 : Nat) (im : Nat) (iz : Nat) (rw : Nat) (t0 : Nat) (u0 : Nat) (h0 : Nat) (y0 : Nat) (sv : Value) (nn : Nat) (nm : Int32) (nl : Int32) (no : Int32) (nu : Int32) (n1 : Nat) (n2 : Nat) (n3 : Nat) (n4 : Nat) (n5 : Nat) (n6 : Nat) (n7 : Nat) (n8 : Nat) (n9 : Nat) (n10 : Nat) (h_c : M ≤ 200) : Ct l yX7_refusedMinutes cX7_refusedMinutes 3 (some .int) 1 0 0 D T [.ref o, .int v, .int (nI M)] [(o, .inr (7, [.ref n0, .ref s0, .ref im, .ref iz, .ref rw, .ref t0, .ref u0, .ref h0, .ref y0, sv])), (n0, .inr (5, [.int (nI nn), .int nm, .int nl, .int no, .int nu, .ref n1, .ref n2, .ref n3, .ref n4, .ref n5, .ref n6, .ref n7, .ref n8, .ref n9, .ref n10]))] (q_x_refusedMinutes T o v M n0 s0 im iz rw t0 u0 h0 y0 sv nn nm nl no nu n1 n2 n3 n4 n5 n6 n7 n8 n9 n10) := by
  refine Ct.of (cc := cX7_refusedMinutes) (maxL := 3) (ret := (some .int)) (by decide) (Nat.le_of_ble_eq_true rfl) ?_
  intro p e s m args below meth c A ls hC hnm V hl
  obtain ⟨hx, hb, hr, hml, hown, hts, hlocks⟩ := id hC
  generalize hH : s.heap = H at V ⊢
  clear hH
  have hl : lv_has ls 3 [(0, .ref o), (1, .int v), (2, .int (nI M))] := hl
  generalize hlo : ([] : List Loc) = locs at V ⊢
  clear hlo
  refine lv_iload_n hx hb dX7_refusedMinutes_0 rfl (lv_at hl 1 rfl) ?_
  refine lv_iconst (v := (nI 1)) hx hb dX7_refusedMinutes_1 (by decide +kernel) ?_
  refine lv_iload_n hx hb dX7_refusedMinutes_2 rfl (lv_at hl 2 rfl) ?_
  refine g_callSU (nA := 3) hC V hl.1 (c_isWithin l D T v (nI 1) (nI M)) w_292 w_293 w_2 w_294 (by decide +kernel) rfl ⟨(Nat.le_of_ble_eq_true rfl), (Nat.le_of_ble_eq_true rfl)⟩ [] rfl rfl (Nat.le_of_ble_eq_true rfl) dX7_refusedMinutes_3 ⟨(Nat.le_of_ble_eq_true rfl), (Nat.le_of_ble_eq_true rfl)⟩ rfl (fun r w1 H locs hQ V => ?_)
  rcases hQ with ⟨rfl, rfl, f_1, f_2⟩ | ⟨rfl, rfl, f_3⟩
  · have V : gW D T A s [(o, .inr (7, [.ref n0, .ref s0, .ref im, .ref iz, .ref rw, .ref t0, .ref u0, .ref h0, .ref y0, sv])), (n0, .inr (5, [.int (nI nn), .int nm, .int nl, .int no, .int nu, .ref n1, .ref n2, .ref n3, .ref n4, .ref n5, .ref n6, .ref n7, .ref n8, .ref n9, .ref n10]))] H locs := V _ [] rfl rfl rfl (by decide +kernel) rfl
    show W p l e _ s m args below meth c H locs _ _ _ (F0 m 6 ls [.int (nI 1)])
    obtain ⟨i, hi1, hi2, ei⟩ := g_rng (by first | decide | omega) (by first | decide | omega) f_1 f_2
    rw [ei] at hl
    refine lv_if_ne (tgt := 12) hx hb dX7_refusedMinutes_6 (by decide) (fun _ => ?_) (fun c => absurd (show (nI 1) = 0 from c) (by decide +kernel))
    refine lv_aload_n hx hb dX7_refusedMinutes_12 rfl (lv_at hl 0 rfl) ?_
    refine g_get hC V (ci := 7) uwX7 0 rfl rfl 0 (by decide) w_249 rfl rfl dX7_refusedMinutes_13 ?_
    refine g_get hC V (ci := 5) uwX5 1 rfl rfl 1 (by decide) w_41 rfl rfl dX7_refusedMinutes_16 ?_
    refine lv_iload_n hx hb dX7_refusedMinutes_19 rfl (lv_at hl 1 rfl) ?_
    refine lv_iadd hx hb dX7_refusedMinutes_20 ?_
    refine lv_sipush (v := (nI 9999)) hx hb dX7_refusedMinutes_21 (by decide +kernel) ?_
    refine lv_icmp_le (tgt := 32) hx hb dX7_refusedMinutes_24 (by decide) (fun c_4 => ?_) (fun c_4 => ?_)
    · skip
      refine lv_iconst (v := (nI 0)) hx hb dX7_refusedMinutes_32 (by decide +kernel) ?_
      exact g_iret (Qr := (q_x_refusedMinutes T o v M n0 s0 im iz rw t0 u0 h0 y0 sv nn nm nl no nu n1 n2 n3 n4 n5 n6 n7 n8 n9 n10)) hC V ⟨(Nat.le_of_ble_eq_true rfl), (Nat.le_of_ble_eq_true rfl)⟩ (.inl ⟨i, rfl, rfl, (by assumption), (by assumption), (by assumption)⟩) dX7_refusedMinutes_33
    · skip
      refine lv_bipush (v := (-5)) hx hb dX7_refusedMinutes_27 (by decide +kernel) ?_
      refine lv_goto (tgt := 33) hx hb dX7_refusedMinutes_29 (by decide) ?_
      exact g_iret (Qr := (q_x_refusedMinutes T o v M n0 s0 im iz rw t0 u0 h0 y0 sv nn nm nl no nu n1 n2 n3 n4 n5 n6 n7 n8 n9 n10)) hC V ⟨(Nat.le_of_ble_eq_true rfl), (Nat.le_of_ble_eq_true rfl)⟩ (.inr ⟨(-5), rfl, rfl, (by decide +kernel)⟩) dX7_refusedMinutes_33
  · have V : gW D T A s [(o, .inr (7, [.ref n0, .ref s0, .ref im, .ref iz, .ref rw, .ref t0, .ref u0, .ref h0, .ref y0, sv])), (n0, .inr (5, [.int (nI nn), .int nm, .int nl, .int no, .int nu, .ref n1, .ref n2, .ref n3, .ref n4, .ref n5, .ref n6, .ref n7, .ref n8, .ref n9, .ref n10]))] H locs := V _ [] rfl rfl rfl (by decide +kernel) rfl
    show W p l e _ s m args below meth c H locs _ _ _ (F0 m 6 ls [.int (nI 0)])
    refine lv_if_ne (tgt := 12) hx hb dX7_refusedMinutes_6 (by decide) (fun c => absurd (show (nI 0) = 0 by decide +kernel) c) (fun _ => ?_)
    refine lv_bipush (v := (-3)) hx hb dX7_refusedMinutes_9 (by decide +kernel) ?_
    exact g_iret (Qr := (q_x_refusedMinutes T o v M n0 s0 im iz rw t0 u0 h0 y0 sv nn nm nl no nu n1 n2 n3 n4 n5 n6 n7 n8 n9 n10)) hC V ⟨(Nat.le_of_ble_eq_true rfl), (Nat.le_of_ble_eq_true rfl)⟩ (.inr ⟨(-3), rfl, rfl, (by decide +kernel)⟩) dX7_refusedMinutes_11

def q_x_doneByCustom (T : Nat → ClassId) (o : Nat) (cn : Nat) (idl : Int32) (sf : Int32) (sb : Int32) (n0 : Nat) (s0 : Nat) (im : Nat) (iz : Nat) (rw : Nat) (t0 : Nat) (u0 : Nat) (h0 : Nat) (y0 : Nat) (sv : Value) (nn : Nat) (nm : Int32) (nl : Int32) (no : Int32) (nu : Int32) (n1 : Nat) (n2 : Nat) (n3 : Nat) (n4 : Nat) (n5 : Nat) (n6 : Nat) (n7 : Nat) (n8 : Nat) (n9 : Nat) (n10 : Nat) (nf1 : Nat → Int32) (nf2 : Nat → Int32) (nf3 : Nat → Int32) (nf4 : Nat → Int32) (nf5 : Nat → Int32) (nf6 : Nat → Int32) (nf7 : Nat → Int32) (nf8 : Nat → Int32) (nf9 : Nat → Int32) (sn : Int32) (sm : Int32) (sl : Int32) (so : Int32) (su : Int32) (s1 : Nat) (s2 : Nat) (s3 : Nat) (s4 : Nat) (s5 : Nat) (s6 : Nat) (s7 : Nat) (s8 : Nat) (s9 : Nat) (s10 : Nat) (sf1 : Nat → Int32) (sf2 : Nat → Int32) (sf3 : Nat → Int32) (sf4 : Nat → Int32) (sf5 : Nat → Int32) (sf6 : Nat → Int32) (sf7 : Nat → Int32) (sf8 : Nat → Int32) (sf9 : Nat → Int32) (sf10 : Nat → Int32) : Option Value → va_W → Prop := fun rr ww => (∃ (z : Int32) (xm : Int32) (xl : Int32) (xo : Int32) (xu : Int32) (q1 : Nat → Int32) (q2 : Nat → Int32) (q3 : Nat → Int32) (q4 : Nat → Int32) (q5 : Nat → Int32) (q6 : Nat → Int32) (q7 : Nat → Int32) (q8 : Nat → Int32) (q9 : Nat → Int32) (q10 : Nat → Int32), rr = some (.int z) ∧ ww = [(o, .inr (7, [.ref n0, .ref s0, .ref im, .ref iz, .ref rw, .ref t0, .ref u0, .ref h0, .ref y0, sv])), (n0, .inr (5, [.int (nI nn), .int nm, .int nl, .int no, .int nu, .ref n1, .ref n2, .ref n3, .ref n4, .ref n5, .ref n6, .ref n7, .ref n8, .ref n9, .ref n10])), (n1, .inl (T 0, 10, .inl nf1)), (n2, .inl (T 0, 10, .inl nf2)), (n3, .inl (T 0, 10, .inl nf3)), (n4, .inl (T 0, 10, .inl nf4)), (n5, .inl (T 0, 10, .inl nf5)), (n6, .inl (T 0, 10, .inl nf6)), (n7, .inl (T 0, 10, .inl nf7)), (n8, .inl (T 0, 10, .inl nf8)), (n9, .inl (T 0, 10, .inl nf9)), (s0, .inr (5, [.int (nI nn), .int xm, .int xl, .int xo, .int xu, .ref s1, .ref s2, .ref s3, .ref s4, .ref s5, .ref s6, .ref s7, .ref s8, .ref s9, .ref s10])), (s1, .inl (T 0, 10, .inl q1)), (s2, .inl (T 0, 10, .inl q2)), (s3, .inl (T 0, 10, .inl q3)), (s4, .inl (T 0, 10, .inl q4)), (s5, .inl (T 0, 10, .inl q5)), (s6, .inl (T 0, 10, .inl q6)), (s7, .inl (T 0, 10, .inl q7)), (s8, .inl (T 0, 10, .inl q8)), (s9, .inl (T 0, 10, .inl q9)), (s10, .inl (T 0, 10, .inl q10))])
set_option maxHeartbeats 4000000 in
set_option maxRecDepth 100000 in
theorem x_doneByCustom (l : Launch) (D : va_G) (T : Nat → ClassId) (o : Nat) (cn : Nat) (idl : Int32) (sf : Int32) (sb : Int32) (n0 : Nat) (s0 : Nat) (im : Nat) (iz : Nat) (rw : Nat) (t0 : Nat) (u0 : Nat) (h0 : Nat) (y0 : Nat) (sv : Value) (nn : Nat) (nm : Int32) (nl : Int32) (no : Int32) (nu : Int32) (n1 : Nat) (n2 : Nat) (n3 : Nat) (n4 : Nat) (n5 : Nat) (n6 : Nat) (n7 : Nat) (n8 : Nat) (n9 : Nat) (n10 : Nat) (nf1 : Nat → Int32) (nf2 : Nat → Int32) (nf3 : Nat → Int32) (nf4 : Nat → Int32) (nf5 : Nat → Int32) (nf6 : Nat → Int32) (nf7 : Nat → Int32) (nf8 : Nat → Int32) (nf9 : Nat → Int32) (sn : Int32) (sm : Int32) (sl : Int32) (so : Int32) (su : Int32) (s1 : Nat) (s2 : Nat) (s3 : Nat) (s4 : Nat) (s5 : Nat) (s6 : Nat) (s7 : Nat) (s8 : Nat) (s9 : Nat) (s10 : Nat) (sf1 : Nat → Int32) (sf2 : Nat → Int32) (sf3 : Nat → Int32) (sf4 : Nat → Int32) (sf5 : Nat → Int32) (sf6 : Nat → Int32) (sf7 : Nat → Int32) (sf8 : Nat → Int32) (sf9 : Nat → Int32) (sf10 : Nat → Int32) (h_n : nn ≤ 10) (h_t : ∀ i, i < nn → bd (nf9 i) nn) (h_c : cn ≤ 1000) : Ct l yX7_doneByCustom cX7_doneByCustom 5 (some .int) 5 0 0 D T [.ref o, .int (nI cn), .int idl, .int sf, .int sb] [(o, .inr (7, [.ref n0, .ref s0, .ref im, .ref iz, .ref rw, .ref t0, .ref u0, .ref h0, .ref y0, sv])), (n0, .inr (5, [.int (nI nn), .int nm, .int nl, .int no, .int nu, .ref n1, .ref n2, .ref n3, .ref n4, .ref n5, .ref n6, .ref n7, .ref n8, .ref n9, .ref n10])), (n1, .inl (T 0, 10, .inl nf1)), (n2, .inl (T 0, 10, .inl nf2)), (n3, .inl (T 0, 10, .inl nf3)), (n4, .inl (T 0, 10, .inl nf4)), (n5, .inl (T 0, 10, .inl nf5)), (n6, .inl (T 0, 10, .inl nf6)), (n7, .inl (T 0, 10, .inl nf7)), (n8, .inl (T 0, 10, .inl nf8)), (n9, .inl (T 0, 10, .inl nf9)), (s0, .inr (5, [.int sn, .int sm, .int sl, .int so, .int su, .ref s1, .ref s2, .ref s3, .ref s4, .ref s5, .ref s6, .ref s7, .ref s8, .ref s9, .ref s10])), (s1, .inl (T 0, 10, .inl sf1)), (s2, .inl (T 0, 10, .inl sf2)), (s3, .inl (T 0, 10, .inl sf3)), (s4, .inl (T 0, 10, .inl sf4)), (s5, .inl (T 0, 10, .inl sf5)), (s6, .inl (T 0, 10, .inl sf6)), (s7, .inl (T 0, 10, .inl sf7)), (s8, .inl (T 0, 10, .inl sf8)), (s9, .inl (T 0, 10, .inl sf9)), (s10, .inl (T 0, 10, .inl sf10))] (q_x_doneByCustom T o cn idl sf sb n0 s0 im iz rw t0 u0 h0 y0 sv nn nm nl no nu n1 n2 n3 n4 n5 n6 n7 n8 n9 n10 nf1 nf2 nf3 nf4 nf5 nf6 nf7 nf8 nf9 sn sm sl so su s1 s2 s3 s4 s5 s6 s7 s8 s9 s10 sf1 sf2 sf3 sf4 sf5 sf6 sf7 sf8 sf9 sf10) := by
  refine Ct.of (cc := cX7_doneByCustom) (maxL := 5) (ret := (some .int)) (by decide) (Nat.le_of_ble_eq_true rfl) ?_
  intro p e s m args below meth c A ls hC hnm V hl
  obtain ⟨hx, hb, hr, hml, hown, hts, hlocks⟩ := id hC
  generalize hH : s.heap = H at V ⊢
  clear hH
  have hl : lv_has ls 5 [(0, .ref o), (1, .int (nI cn)), (2, .int idl), (3, .int sf), (4, .int sb)] := hl
  generalize hlo : ([] : List Loc) = locs at V ⊢
  clear hlo
  refine lv_aload_n hx hb dX7_doneByCustom_0 rfl (lv_at hl 0 rfl) ?_
  refine g_get hC V (ci := 7) uwX7 0 rfl rfl 1 (by decide) w_250 rfl rfl dX7_doneByCustom_1 ?_
  refine lv_aload_n hx hb dX7_doneByCustom_4 rfl (lv_at hl 0 rfl) ?_
  refine g_get hC V (ci := 7) uwX7 0 rfl rfl 0 (by decide) w_249 rfl rfl dX7_doneByCustom_5 ?_
  refine g_callVU (nA := 1) hC V hl.1 (s_takeFrom l D T s0 n0 sn sm sl so su s1 s2 s3 s4 s5 s6 s7 s8 s9 s10 sf1 sf2 sf3 sf4 sf5 sf6 sf7 sf8 sf9 nn nm nl no nu n1 n2 n3 n4 n5 n6 n7 n8 n9 n10 nf1 nf2 nf3 nf4 nf5 nf6 nf7 nf8 nf9 (by first | assumption | omega)) w_413 w_414 w_415 w_3 w_416 (by decide +kernel) rfl ⟨(Nat.le_of_ble_eq_true rfl), (Nat.le_of_ble_eq_true rfl)⟩ 11 (ci := 5) rfl rfl [11, 12, 13, 14, 15, 16, 17, 18, 19, 20, 1, 2, 3, 4, 5, 6, 7, 8, 9, 10] rfl rfl (Nat.le_of_ble_eq_true rfl) dX7_doneByCustom_8 ⟨(Nat.le_of_ble_eq_true rfl), (Nat.le_of_ble_eq_true rfl)⟩ rfl (fun r w1 H locs hQ V => ?_)
  obtain ⟨p1, p2, p3, p4, p5, p6, p7, p8, p9, rfl, rfl, f_1, f_2, f_3, f_4, f_5, f_6, f_7, f_8, f_9⟩ := hQ
  have V : gW D T A s [(o, .inr (7, [.ref n0, .ref s0, .ref im, .ref iz, .ref rw, .ref t0, .ref u0, .ref h0, .ref y0, sv])), (n0, .inr (5, [.int (nI nn), .int nm, .int nl, .int no, .int nu, .ref n1, .ref n2, .ref n3, .ref n4, .ref n5, .ref n6, .ref n7, .ref n8, .ref n9, .ref n10])), (n1, .inl (T 0, 10, .inl nf1)), (n2, .inl (T 0, 10, .inl nf2)), (n3, .inl (T 0, 10, .inl nf3)), (n4, .inl (T 0, 10, .inl nf4)), (n5, .inl (T 0, 10, .inl nf5)), (n6, .inl (T 0, 10, .inl nf6)), (n7, .inl (T 0, 10, .inl nf7)), (n8, .inl (T 0, 10, .inl nf8)), (n9, .inl (T 0, 10, .inl nf9)), (s0, .inr (5, [.int (nI nn), .int nm, .int nl, .int no, .int nu, .ref s1, .ref s2, .ref s3, .ref s4, .ref s5, .ref s6, .ref s7, .ref s8, .ref s9, .ref s10])), (s1, .inl (T 0, 10, .inl p1)), (s2, .inl (T 0, 10, .inl p2)), (s3, .inl (T 0, 10, .inl p3)), (s4, .inl (T 0, 10, .inl p4)), (s5, .inl (T 0, 10, .inl p5)), (s6, .inl (T 0, 10, .inl p6)), (s7, .inl (T 0, 10, .inl p7)), (s8, .inl (T 0, 10, .inl p8)), (s9, .inl (T 0, 10, .inl p9)), (s10, .inl (T 0, 10, .inl sf10))] H locs := V _ [1, 0, 0, 0, 0, 0, 0, 0, 0, 0, 0, 0, 0, 0, 0, 0, 0, 0, 0, 0] rfl rfl rfl (by decide +kernel) rfl
  show W p l e _ s m args below meth c H locs _ _ _ (F0 m 11 ls [])
  have hp9 : ∀ i, i < nn → bd (p9 i) nn := fun i h => by rw [f_9 i h]; exact h_t i h
  refine lv_aload_n hx hb dX7_doneByCustom_11 rfl (lv_at hl 0 rfl) ?_
  refine g_get hC V (ci := 7) uwX7 0 rfl rfl 1 (by decide) w_250 rfl rfl dX7_doneByCustom_12 ?_
  refine lv_iload_n hx hb dX7_doneByCustom_15 rfl (lv_at hl 1 rfl) ?_
  refine lv_iload_n hx hb dX7_doneByCustom_16 rfl (lv_at hl 2 rfl) ?_
  refine lv_iload_n hx hb dX7_doneByCustom_17 rfl (lv_at hl 3 rfl) ?_
  refine lv_iload hx hb dX7_doneByCustom_18 (lv_at hl 4 rfl) ?_
  refine g_callVU (nA := 4) hC V hl.1 (s_passAll l D T s0 cn idl sf sb nn nm nl no nu s1 s2 s3 s4 s5 s6 s7 s8 s9 s10 p1 p2 p3 p4 p5 p6 p7 p8 p9 sf10 (by first | assumption | omega) hp9 (by first | assumption | omega)) w_540 w_541 w_542 w_3 w_543 (by decide +kernel) rfl ⟨(Nat.le_of_ble_eq_true rfl), (Nat.le_of_ble_eq_true rfl)⟩ 11 (ci := 5) rfl rfl [11, 12, 13, 14, 15, 16, 17, 18, 19, 20, 21] rfl rfl (Nat.le_of_ble_eq_true rfl) dX7_doneByCustom_20 ⟨(Nat.le_of_ble_eq_true rfl), (Nat.le_of_ble_eq_true rfl)⟩ rfl (fun r w1 H locs hQ V => ?_)
  obtain ⟨z_10, u_11, mm_12, g3_13, g7_14, g8_15, g10_16, rfl, rfl⟩ := hQ
  have V : gW D T A s [(o, .inr (7, [.ref n0, .ref s0, .ref im, .ref iz, .ref rw, .ref t0, .ref u0, .ref h0, .ref y0, sv])), (n0, .inr (5, [.int (nI nn), .int nm, .int nl, .int no, .int nu, .ref n1, .ref n2, .ref n3, .ref n4, .ref n5, .ref n6, .ref n7, .ref n8, .ref n9, .ref n10])), (n1, .inl (T 0, 10, .inl nf1)), (n2, .inl (T 0, 10, .inl nf2)), (n3, .inl (T 0, 10, .inl nf3)), (n4, .inl (T 0, 10, .inl nf4)), (n5, .inl (T 0, 10, .inl nf5)), (n6, .inl (T 0, 10, .inl nf6)), (n7, .inl (T 0, 10, .inl nf7)), (n8, .inl (T 0, 10, .inl nf8)), (n9, .inl (T 0, 10, .inl nf9)), (s0, .inr (5, [.int (nI nn), .int mm_12, .int nl, .int no, .int u_11, .ref s1, .ref s2, .ref s3, .ref s4, .ref s5, .ref s6, .ref s7, .ref s8, .ref s9, .ref s10])), (s1, .inl (T 0, 10, .inl p1)), (s2, .inl (T 0, 10, .inl p2)), (s3, .inl (T 0, 10, .inl g3_13)), (s4, .inl (T 0, 10, .inl p4)), (s5, .inl (T 0, 10, .inl p5)), (s6, .inl (T 0, 10, .inl p6)), (s7, .inl (T 0, 10, .inl g7_14)), (s8, .inl (T 0, 10, .inl g8_15)), (s9, .inl (T 0, 10, .inl p9)), (s10, .inl (T 0, 10, .inl g10_16))] H locs := V _ [11, 0, 0, 0, 0, 0, 0, 0, 0, 0, 0] rfl rfl rfl (by decide +kernel) rfl
  show W p l e _ s m args below meth c H locs _ _ _ (F0 m 23 ls [.int z_10])
  refine lv_pop hx hb dX7_doneByCustom_23 rfl ?_
  refine lv_aload_n hx hb dX7_doneByCustom_24 rfl (lv_at hl 0 rfl) ?_
  refine g_get hC V (ci := 7) uwX7 0 rfl rfl 1 (by decide) w_250 rfl rfl dX7_doneByCustom_25 ?_
  refine g_callVU (nA := 0) hC V hl.1 (s_piecesDone l D T s0 nn mm_12 nl no u_11 s1 s2 s3 s4 s5 s6 s7 s8 s9 s10 p6 g7_14 (by first | assumption | omega)) w_516 w_517 w_518 w_3 w_519 (by decide +kernel) rfl ⟨(Nat.le_of_ble_eq_true rfl), (Nat.le_of_ble_eq_true rfl)⟩ 11 (ci := 5) rfl rfl [11, 17, 18] rfl rfl (Nat.le_of_ble_eq_true rfl) dX7_doneByCustom_28 ⟨(Nat.le_of_ble_eq_true rfl), (Nat.le_of_ble_eq_true rfl)⟩ rfl (fun r w1 H locs hQ V => ?_)
  obtain ⟨z_17, rfl, rfl⟩ := hQ
  have V : gW D T A s [(o, .inr (7, [.ref n0, .ref s0, .ref im, .ref iz, .ref rw, .ref t0, .ref u0, .ref h0, .ref y0, sv])), (n0, .inr (5, [.int (nI nn), .int nm, .int nl, .int no, .int nu, .ref n1, .ref n2, .ref n3, .ref n4, .ref n5, .ref n6, .ref n7, .ref n8, .ref n9, .ref n10])), (n1, .inl (T 0, 10, .inl nf1)), (n2, .inl (T 0, 10, .inl nf2)), (n3, .inl (T 0, 10, .inl nf3)), (n4, .inl (T 0, 10, .inl nf4)), (n5, .inl (T 0, 10, .inl nf5)), (n6, .inl (T 0, 10, .inl nf6)), (n7, .inl (T 0, 10, .inl nf7)), (n8, .inl (T 0, 10, .inl nf8)), (n9, .inl (T 0, 10, .inl nf9)), (s0, .inr (5, [.int (nI nn), .int mm_12, .int nl, .int no, .int u_11, .ref s1, .ref s2, .ref s3, .ref s4, .ref s5, .ref s6, .ref s7, .ref s8, .ref s9, .ref s10])), (s1, .inl (T 0, 10, .inl p1)), (s2, .inl (T 0, 10, .inl p2)), (s3, .inl (T 0, 10, .inl g3_13)), (s4, .inl (T 0, 10, .inl p4)), (s5, .inl (T 0, 10, .inl p5)), (s6, .inl (T 0, 10, .inl p6)), (s7, .inl (T 0, 10, .inl g7_14)), (s8, .inl (T 0, 10, .inl g8_15)), (s9, .inl (T 0, 10, .inl p9)), (s10, .inl (T 0, 10, .inl g10_16))] H locs := V _ [11, 5, 0] rfl rfl rfl (by decide +kernel) rfl
  show W p l e _ s m args below meth c H locs _ _ _ (F0 m 31 ls [.int z_17])
  exact g_iret (Qr := (q_x_doneByCustom T o cn idl sf sb n0 s0 im iz rw t0 u0 h0 y0 sv nn nm nl no nu n1 n2 n3 n4 n5 n6 n7 n8 n9 n10 nf1 nf2 nf3 nf4 nf5 nf6 nf7 nf8 nf9 sn sm sl so su s1 s2 s3 s4 s5 s6 s7 s8 s9 s10 sf1 sf2 sf3 sf4 sf5 sf6 sf7 sf8 sf9 sf10)) hC V ⟨(Nat.le_of_ble_eq_true rfl), (Nat.le_of_ble_eq_true rfl)⟩ ⟨z_17, mm_12, nl, no, u_11, p1, p2, g3_13, p4, p5, p6, g7_14, g8_15, p9, g10_16, rfl, rfl⟩ dX7_doneByCustom_31

def q_x_custom (T : Nat → ClassId) (o : Nat) (n : Int32) (n0 : Nat) (s0 : Nat) (im : Nat) (iz : Nat) (rw : Nat) (t0 : Nat) (u0 : Nat) (h0 : Nat) (y0 : Nat) (sv : Value) (nn : Nat) (nm : Int32) (nl : Int32) (no : Int32) (nu : Int32) (n1 : Nat) (n2 : Nat) (n3 : Nat) (n4 : Nat) (n5 : Nat) (n6 : Nat) (n7 : Nat) (n8 : Nat) (n9 : Nat) (n10 : Nat) (nf1 : Nat → Int32) (nf2 : Nat → Int32) (nf3 : Nat → Int32) (nf4 : Nat → Int32) (nf5 : Nat → Int32) (nf6 : Nat → Int32) (nf7 : Nat → Int32) (nf8 : Nat → Int32) (nf9 : Nat → Int32) (sn : Int32) (sm : Int32) (sl : Int32) (so : Int32) (su : Int32) (s1 : Nat) (s2 : Nat) (s3 : Nat) (s4 : Nat) (s5 : Nat) (s6 : Nat) (s7 : Nat) (s8 : Nat) (s9 : Nat) (s10 : Nat) (sf1 : Nat → Int32) (sf2 : Nat → Int32) (sf3 : Nat → Int32) (sf4 : Nat → Int32) (sf5 : Nat → Int32) (sf6 : Nat → Int32) (sf7 : Nat → Int32) (sf8 : Nat → Int32) (sf9 : Nat → Int32) (sf10 : Nat → Int32) : Option Value → va_W → Prop := fun rr ww => (∃ (z : Int32) (xn : Int32) (xm : Int32) (xl : Int32) (xo : Int32) (xu : Int32) (q1 : Nat → Int32) (q2 : Nat → Int32) (q3 : Nat → Int32) (q4 : Nat → Int32) (q5 : Nat → Int32) (q6 : Nat → Int32) (q7 : Nat → Int32) (q8 : Nat → Int32) (q9 : Nat → Int32) (q10 : Nat → Int32), rr = some (.int z) ∧ ww = [(o, .inr (7, [.ref n0, .ref s0, .ref im, .ref iz, .ref rw, .ref t0, .ref u0, .ref h0, .ref y0, sv])), (n0, .inr (5, [.int (nI nn), .int nm, .int nl, .int no, .int nu, .ref n1, .ref n2, .ref n3, .ref n4, .ref n5, .ref n6, .ref n7, .ref n8, .ref n9, .ref n10])), (n1, .inl (T 0, 10, .inl nf1)), (n2, .inl (T 0, 10, .inl nf2)), (n3, .inl (T 0, 10, .inl nf3)), (n4, .inl (T 0, 10, .inl nf4)), (n5, .inl (T 0, 10, .inl nf5)), (n6, .inl (T 0, 10, .inl nf6)), (n7, .inl (T 0, 10, .inl nf7)), (n8, .inl (T 0, 10, .inl nf8)), (n9, .inl (T 0, 10, .inl nf9)), (s0, .inr (5, [.int xn, .int xm, .int xl, .int xo, .int xu, .ref s1, .ref s2, .ref s3, .ref s4, .ref s5, .ref s6, .ref s7, .ref s8, .ref s9, .ref s10])), (s1, .inl (T 0, 10, .inl q1)), (s2, .inl (T 0, 10, .inl q2)), (s3, .inl (T 0, 10, .inl q3)), (s4, .inl (T 0, 10, .inl q4)), (s5, .inl (T 0, 10, .inl q5)), (s6, .inl (T 0, 10, .inl q6)), (s7, .inl (T 0, 10, .inl q7)), (s8, .inl (T 0, 10, .inl q8)), (s9, .inl (T 0, 10, .inl q9)), (s10, .inl (T 0, 10, .inl q10))])
set_option maxHeartbeats 4000000 in
set_option maxRecDepth 100000 in
theorem x_custom (l : Launch) (D : va_G) (T : Nat → ClassId) (o : Nat) (n : Int32) (n0 : Nat) (s0 : Nat) (im : Nat) (iz : Nat) (rw : Nat) (t0 : Nat) (u0 : Nat) (h0 : Nat) (y0 : Nat) (sv : Value) (nn : Nat) (nm : Int32) (nl : Int32) (no : Int32) (nu : Int32) (n1 : Nat) (n2 : Nat) (n3 : Nat) (n4 : Nat) (n5 : Nat) (n6 : Nat) (n7 : Nat) (n8 : Nat) (n9 : Nat) (n10 : Nat) (nf1 : Nat → Int32) (nf2 : Nat → Int32) (nf3 : Nat → Int32) (nf4 : Nat → Int32) (nf5 : Nat → Int32) (nf6 : Nat → Int32) (nf7 : Nat → Int32) (nf8 : Nat → Int32) (nf9 : Nat → Int32) (sn : Int32) (sm : Int32) (sl : Int32) (so : Int32) (su : Int32) (s1 : Nat) (s2 : Nat) (s3 : Nat) (s4 : Nat) (s5 : Nat) (s6 : Nat) (s7 : Nat) (s8 : Nat) (s9 : Nat) (s10 : Nat) (sf1 : Nat → Int32) (sf2 : Nat → Int32) (sf3 : Nat → Int32) (sf4 : Nat → Int32) (sf5 : Nat → Int32) (sf6 : Nat → Int32) (sf7 : Nat → Int32) (sf8 : Nat → Int32) (sf9 : Nat → Int32) (sf10 : Nat → Int32) (h_n : nn ≤ 10) (h_t : ∀ i, i < nn → bd (nf9 i) nn) : Ct l yX7_custom cX7_custom 3 (some .int) 6 0 0 D T [.ref o, .int n] [(o, .inr (7, [.ref n0, .ref s0, .ref im, .ref iz, .ref rw, .ref t0, .ref u0, .ref h0, .ref y0, sv])), (n0, .inr (5, [.int (nI nn), .int nm, .int nl, .int no, .int nu, .ref n1, .ref n2, .ref n3, .ref n4, .ref n5, .ref n6, .ref n7, .ref n8, .ref n9, .ref n10])), (n1, .inl (T 0, 10, .inl nf1)), (n2, .inl (T 0, 10, .inl nf2)), (n3, .inl (T 0, 10, .inl nf3)), (n4, .inl (T 0, 10, .inl nf4)), (n5, .inl (T 0, 10, .inl nf5)), (n6, .inl (T 0, 10, .inl nf6)), (n7, .inl (T 0, 10, .inl nf7)), (n8, .inl (T 0, 10, .inl nf8)), (n9, .inl (T 0, 10, .inl nf9)), (s0, .inr (5, [.int sn, .int sm, .int sl, .int so, .int su, .ref s1, .ref s2, .ref s3, .ref s4, .ref s5, .ref s6, .ref s7, .ref s8, .ref s9, .ref s10])), (s1, .inl (T 0, 10, .inl sf1)), (s2, .inl (T 0, 10, .inl sf2)), (s3, .inl (T 0, 10, .inl sf3)), (s4, .inl (T 0, 10, .inl sf4)), (s5, .inl (T 0, 10, .inl sf5)), (s6, .inl (T 0, 10, .inl sf6)), (s7, .inl (T 0, 10, .inl sf7)), (s8, .inl (T 0, 10, .inl sf8)), (s9, .inl (T 0, 10, .inl sf9)), (s10, .inl (T 0, 10, .inl sf10))] (q_x_custom T o n n0 s0 im iz rw t0 u0 h0 y0 sv nn nm nl no nu n1 n2 n3 n4 n5 n6 n7 n8 n9 n10 nf1 nf2 nf3 nf4 nf5 nf6 nf7 nf8 nf9 sn sm sl so su s1 s2 s3 s4 s5 s6 s7 s8 s9 s10 sf1 sf2 sf3 sf4 sf5 sf6 sf7 sf8 sf9 sf10) := by
  refine Ct.of (cc := cX7_custom) (maxL := 3) (ret := (some .int)) (by decide) (Nat.le_of_ble_eq_true rfl) ?_
  intro p e s m args below meth c A ls hC hnm V hl
  obtain ⟨hx, hb, hr, hml, hown, hts, hlocks⟩ := id hC
  generalize hH : s.heap = H at V ⊢
  clear hH
  have hl : lv_has ls 3 [(0, .ref o), (1, .int n)] := hl
  generalize hlo : ([] : List Loc) = locs at V ⊢
  clear hlo
  refine lv_aload_n hx hb dX7_custom_0 rfl (lv_at hl 0 rfl) ?_
  refine lv_iload_n hx hb dX7_custom_1 rfl (lv_at hl 1 rfl) ?_
  refine lv_sipush (v := (nI 200)) hx hb dX7_custom_2 (by decide +kernel) ?_
  refine g_callVU (nA := 2) hC V hl.1 (x_refusedMinutes l D T o n 200 n0 s0 im iz rw t0 u0 h0 y0 sv nn nm nl no nu n1 n2 n3 n4 n5 n6 n7 n8 n9 n10 (by first | assumption | omega)) w_532 w_534 w_s12 w_2 w_535 (by decide +kernel) rfl ⟨(Nat.le_of_ble_eq_true rfl), (Nat.le_of_ble_eq_true rfl)⟩ 0 (ci := 7) rfl rfl [0, 1] rfl rfl (Nat.le_of_ble_eq_true rfl) dX7_custom_5 ⟨(Nat.le_of_ble_eq_true rfl), (Nat.le_of_ble_eq_true rfl)⟩ rfl (fun r w1 H locs hQ V => ?_)
  rcases hQ with ⟨j_1, rfl, rfl, f_2, f_3, f_4⟩ | ⟨z_5, rfl, rfl, f_6⟩
  · have V : gW D T A s [(o, .inr (7, [.ref n0, .ref s0, .ref im, .ref iz, .ref rw, .ref t0, .ref u0, .ref h0, .ref y0, sv])), (n0, .inr (5, [.int (nI nn), .int nm, .int nl, .int no, .int nu, .ref n1, .ref n2, .ref n3, .ref n4, .ref n5, .ref n6, .ref n7, .ref n8, .ref n9, .ref n10])), (n1, .inl (T 0, 10, .inl nf1)), (n2, .inl (T 0, 10, .inl nf2)), (n3, .inl (T 0, 10, .inl nf3)), (n4, .inl (T 0, 10, .inl nf4)), (n5, .inl (T 0, 10, .inl nf5)), (n6, .inl (T 0, 10, .inl nf6)), (n7, .inl (T 0, 10, .inl nf7)), (n8, .inl (T 0, 10, .inl nf8)), (n9, .inl (T 0, 10, .inl nf9)), (s0, .inr (5, [.int sn, .int sm, .int sl, .int so, .int su, .ref s1, .ref s2, .ref s3, .ref s4, .ref s5, .ref s6, .ref s7, .ref s8, .ref s9, .ref s10])), (s1, .inl (T 0, 10, .inl sf1)), (s2, .inl (T 0, 10, .inl sf2)), (s3, .inl (T 0, 10, .inl sf3)), (s4, .inl (T 0, 10, .inl sf4)), (s5, .inl (T 0, 10, .inl sf5)), (s6, .inl (T 0, 10, .inl sf6)), (s7, .inl (T 0, 10, .inl sf7)), (s8, .inl (T 0, 10, .inl sf8)), (s9, .inl (T 0, 10, .inl sf9)), (s10, .inl (T 0, 10, .inl sf10))] H locs := V _ [0, 0] rfl rfl rfl (by decide +kernel) rfl
    show W p l e _ s m args below meth c H locs _ _ _ (F0 m 8 ls [.int (nI 0)])
    rw [f_4] at hl
    refine lv_istore_n (lv' := [(2, .int (nI 0)), (0, .ref o), (1, .int (nI j_1))]) hx hb dX7_custom_8 rfl hl (by decide) rfl (fun ls hl => ?_)
    refine lv_iload_n hx hb dX7_custom_9 rfl (lv_at hl 0 rfl) ?_
    refine lv_if_eq (tgt := 17) hx hb dX7_custom_10 (by decide) (fun _ => ?_) (fun c => absurd (show (nI 0) = 0 by decide +kernel) c)
    refine lv_aload_n hx hb dX7_custom_17 rfl (lv_at hl 1 rfl) ?_
    refine lv_iload_n hx hb dX7_custom_18 rfl (lv_at hl 2 rfl) ?_
    refine lv_iconst (v := (nI 0)) hx hb dX7_custom_19 (by decide +kernel) ?_
    refine lv_iconst (v := (-1)) hx hb dX7_custom_20 (by decide +kernel) ?_
    refine lv_iconst (v := (nI 0)) hx hb dX7_custom_21 (by decide +kernel) ?_
    refine g_callV (wr := []) (nA := 4) hC V hl.1 (x_doneByCustom l D T o j_1 (nI 0) (-1) (nI 0) n0 s0 im iz rw t0 u0 h0 y0 sv nn nm nl no nu n1 n2 n3 n4 n5 n6 n7 n8 n9 n10 nf1 nf2 nf3 nf4 nf5 nf6 nf7 nf8 nf9 sn sm sl so su s1 s2 s3 s4 s5 s6 s7 s8 s9 s10 sf1 sf2 sf3 sf4 sf5 sf6 sf7 sf8 sf9 sf10 (by first | assumption | omega) (by first | assumption | omega) (by first | assumption | omega)) w_536 w_538 w_s13 w_2 w_539 (by decide +kernel) rfl ⟨(Nat.le_of_ble_eq_true rfl), (Nat.le_of_ble_eq_true rfl)⟩ 0 (ci := 7) rfl rfl [0, 1, 2, 3, 4, 5, 6, 7, 8, 9, 10, 11, 12, 13, 14, 15, 16, 17, 18, 19, 20, 21] [] rfl rfl rfl rfl (by decide) (Nat.le_of_ble_eq_true rfl) dX7_custom_22 ⟨(Nat.le_of_ble_eq_true rfl), (Nat.le_of_ble_eq_true rfl)⟩ rfl (fun r w1 H locs hQ V => ?_)
    obtain ⟨z_7, xm_8, xl_9, xo_10, xu_11, q1_12, q2_13, q3_14, q4_15, q5_16, q6_17, q7_18, q8_19, q9_20, q10_21, rfl, rfl⟩ := hQ
    have V : gW D T A s [(o, .inr (7, [.ref n0, .ref s0, .ref im, .ref iz, .ref rw, .ref t0, .ref u0, .ref h0, .ref y0, sv])), (n0, .inr (5, [.int (nI nn), .int nm, .int nl, .int no, .int nu, .ref n1, .ref n2, .ref n3, .ref n4, .ref n5, .ref n6, .ref n7, .ref n8, .ref n9, .ref n10])), (n1, .inl (T 0, 10, .inl nf1)), (n2, .inl (T 0, 10, .inl nf2)), (n3, .inl (T 0, 10, .inl nf3)), (n4, .inl (T 0, 10, .inl nf4)), (n5, .inl (T 0, 10, .inl nf5)), (n6, .inl (T 0, 10, .inl nf6)), (n7, .inl (T 0, 10, .inl nf7)), (n8, .inl (T 0, 10, .inl nf8)), (n9, .inl (T 0, 10, .inl nf9)), (s0, .inr (5, [.int (nI nn), .int xm_8, .int xl_9, .int xo_10, .int xu_11, .ref s1, .ref s2, .ref s3, .ref s4, .ref s5, .ref s6, .ref s7, .ref s8, .ref s9, .ref s10])), (s1, .inl (T 0, 10, .inl q1_12)), (s2, .inl (T 0, 10, .inl q2_13)), (s3, .inl (T 0, 10, .inl q3_14)), (s4, .inl (T 0, 10, .inl q4_15)), (s5, .inl (T 0, 10, .inl q5_16)), (s6, .inl (T 0, 10, .inl q6_17)), (s7, .inl (T 0, 10, .inl q7_18)), (s8, .inl (T 0, 10, .inl q8_19)), (s9, .inl (T 0, 10, .inl q9_20)), (s10, .inl (T 0, 10, .inl q10_21))] H locs := V
    show W p l e _ s m args below meth c H locs _ _ _ (F0 m 25 ls [.int z_7])
    exact g_iret (Qr := (q_x_custom T o n n0 s0 im iz rw t0 u0 h0 y0 sv nn nm nl no nu n1 n2 n3 n4 n5 n6 n7 n8 n9 n10 nf1 nf2 nf3 nf4 nf5 nf6 nf7 nf8 nf9 sn sm sl so su s1 s2 s3 s4 s5 s6 s7 s8 s9 s10 sf1 sf2 sf3 sf4 sf5 sf6 sf7 sf8 sf9 sf10)) hC V ⟨(Nat.le_of_ble_eq_true rfl), (Nat.le_of_ble_eq_true rfl)⟩ ⟨z_7, (nI nn), xm_8, xl_9, xo_10, xu_11, q1_12, q2_13, q3_14, q4_15, q5_16, q6_17, q7_18, q8_19, q9_20, q10_21, rfl, rfl⟩ dX7_custom_25
  · have V : gW D T A s [(o, .inr (7, [.ref n0, .ref s0, .ref im, .ref iz, .ref rw, .ref t0, .ref u0, .ref h0, .ref y0, sv])), (n0, .inr (5, [.int (nI nn), .int nm, .int nl, .int no, .int nu, .ref n1, .ref n2, .ref n3, .ref n4, .ref n5, .ref n6, .ref n7, .ref n8, .ref n9, .ref n10])), (n1, .inl (T 0, 10, .inl nf1)), (n2, .inl (T 0, 10, .inl nf2)), (n3, .inl (T 0, 10, .inl nf3)), (n4, .inl (T 0, 10, .inl nf4)), (n5, .inl (T 0, 10, .inl nf5)), (n6, .inl (T 0, 10, .inl nf6)), (n7, .inl (T 0, 10, .inl nf7)), (n8, .inl (T 0, 10, .inl nf8)), (n9, .inl (T 0, 10, .inl nf9)), (s0, .inr (5, [.int sn, .int sm, .int sl, .int so, .int su, .ref s1, .ref s2, .ref s3, .ref s4, .ref s5, .ref s6, .ref s7, .ref s8, .ref s9, .ref s10])), (s1, .inl (T 0, 10, .inl sf1)), (s2, .inl (T 0, 10, .inl sf2)), (s3, .inl (T 0, 10, .inl sf3)), (s4, .inl (T 0, 10, .inl sf4)), (s5, .inl (T 0, 10, .inl sf5)), (s6, .inl (T 0, 10, .inl sf6)), (s7, .inl (T 0, 10, .inl sf7)), (s8, .inl (T 0, 10, .inl sf8)), (s9, .inl (T 0, 10, .inl sf9)), (s10, .inl (T 0, 10, .inl sf10))] H locs := V _ [0, 0] rfl rfl rfl (by decide +kernel) rfl
    show W p l e _ s m args below meth c H locs _ _ _ (F0 m 8 ls [.int z_5])
    refine lv_istore_n (lv' := [(2, .int z_5), (0, .ref o), (1, .int n)]) hx hb dX7_custom_8 rfl hl (by decide) rfl (fun ls hl => ?_)
    refine lv_iload_n hx hb dX7_custom_9 rfl (lv_at hl 0 rfl) ?_
    refine lv_if_eq (tgt := 17) hx hb dX7_custom_10 (by decide) (fun c_22 => ?_) (fun c_22 => ?_)
    · skip
      exact (absurd c_22 (by assumption) : False).elim
    · skip
      refine lv_iload_n hx hb dX7_custom_13 rfl (lv_at hl 0 rfl) ?_
      refine lv_goto (tgt := 25) hx hb dX7_custom_14 (by decide) ?_
      exact g_iret (Qr := (q_x_custom T o n n0 s0 im iz rw t0 u0 h0 y0 sv nn nm nl no nu n1 n2 n3 n4 n5 n6 n7 n8 n9 n10 nf1 nf2 nf3 nf4 nf5 nf6 nf7 nf8 nf9 sn sm sl so su s1 s2 s3 s4 s5 s6 s7 s8 s9 s10 sf1 sf2 sf3 sf4 sf5 sf6 sf7 sf8 sf9 sf10)) hC V ⟨(Nat.le_of_ble_eq_true rfl), (Nat.le_of_ble_eq_true rfl)⟩ ⟨z_5, sn, sm, sl, so, su, sf1, sf2, sf3, sf4, sf5, sf6, sf7, sf8, sf9, sf10, rfl, rfl⟩ dX7_custom_25

def q_x_ring (T : Nat → ClassId) (o : Nat) (i : Int32) (n0 : Nat) (s0 : Nat) (im : Nat) (iz : Nat) (rw : Nat) (t0 : Nat) (u0 : Nat) (h0 : Nat) (y0 : Nat) (sv : Value) (nn : Nat) (nm : Int32) (nl : Int32) (no : Int32) (nu : Int32) (n1 : Nat) (n2 : Nat) (n3 : Nat) (n4 : Nat) (n5 : Nat) (n6 : Nat) (n7 : Nat) (n8 : Nat) (n9 : Nat) (n10 : Nat) (nf9 : Nat → Int32) : Option Value → va_W → Prop := fun rr ww => (∃ (z : Int32), rr = some (.int z) ∧ ww = [(o, .inr (7, [.ref n0, .ref s0, .ref im, .ref iz, .ref rw, .ref t0, .ref u0, .ref h0, .ref y0, sv])), (n0, .inr (5, [.int (nI nn), .int nm, .int nl, .int no, .int nu, .ref n1, .ref n2, .ref n3, .ref n4, .ref n5, .ref n6, .ref n7, .ref n8, .ref n9, .ref n10])), (n9, .inl (T 0, 10, .inl nf9))])
set_option maxHeartbeats 4000000 in
set_option maxRecDepth 100000 in
theorem x_ring (l : Launch) (D : va_G) (T : Nat → ClassId) (o : Nat) (i : Int32) (n0 : Nat) (s0 : Nat) (im : Nat) (iz : Nat) (rw : Nat) (t0 : Nat) (u0 : Nat) (h0 : Nat) (y0 : Nat) (sv : Value) (nn : Nat) (nm : Int32) (nl : Int32) (no : Int32) (nu : Int32) (n1 : Nat) (n2 : Nat) (n3 : Nat) (n4 : Nat) (n5 : Nat) (n6 : Nat) (n7 : Nat) (n8 : Nat) (n9 : Nat) (n10 : Nat) (nf9 : Nat → Int32) (h_n : nn ≤ 10) (h_t : ∀ i, i < nn → bd (nf9 i) nn) : Ct l yX7_ring cX7_ring 2 (some .int) 1 0 0 D T [.ref o, .int i] [(o, .inr (7, [.ref n0, .ref s0, .ref im, .ref iz, .ref rw, .ref t0, .ref u0, .ref h0, .ref y0, sv])), (n0, .inr (5, [.int (nI nn), .int nm, .int nl, .int no, .int nu, .ref n1, .ref n2, .ref n3, .ref n4, .ref n5, .ref n6, .ref n7, .ref n8, .ref n9, .ref n10])), (n9, .inl (T 0, 10, .inl nf9))] (q_x_ring T o i n0 s0 im iz rw t0 u0 h0 y0 sv nn nm nl no nu n1 n2 n3 n4 n5 n6 n7 n8 n9 n10 nf9) := by
  refine Ct.of (cc := cX7_ring) (maxL := 2) (ret := (some .int)) (by decide) (Nat.le_of_ble_eq_true rfl) ?_
  intro p e s m args below meth c A ls hC hnm V hl
  obtain ⟨hx, hb, hr, hml, hown, hts, hlocks⟩ := id hC
  generalize hH : s.heap = H at V ⊢
  clear hH
  have hl : lv_has ls 2 [(0, .ref o), (1, .int i)] := hl
  generalize hlo : ([] : List Loc) = locs at V ⊢
  clear hlo
  refine lv_aload_n hx hb dX7_ring_0 rfl (lv_at hl 0 rfl) ?_
  refine g_get hC V (ci := 7) uwX7 0 rfl rfl 0 (by decide) w_249 rfl rfl dX7_ring_1 ?_
  refine lv_iload_n hx hb dX7_ring_4 rfl (lv_at hl 1 rfl) ?_
  refine g_callVU (nA := 1) hC V hl.1 (s_isSmith l D T n0 i nn nm nl no nu n1 n2 n3 n4 n5 n6 n7 n8 n9 n10 (by first | assumption | omega)) w_425 w_426 w_427 w_3 w_428 (by decide +kernel) rfl ⟨(Nat.le_of_ble_eq_true rfl), (Nat.le_of_ble_eq_true rfl)⟩ 1 (ci := 5) rfl rfl [1] rfl rfl (Nat.le_of_ble_eq_true rfl) dX7_ring_5 ⟨(Nat.le_of_ble_eq_true rfl), (Nat.le_of_ble_eq_true rfl)⟩ rfl (fun r w1 H locs hQ V => ?_)
  rcases hQ with ⟨j_1, rfl, rfl, f_2, f_3⟩ | ⟨rfl, rfl, f_4⟩
  · have V : gW D T A s [(o, .inr (7, [.ref n0, .ref s0, .ref im, .ref iz, .ref rw, .ref t0, .ref u0, .ref h0, .ref y0, sv])), (n0, .inr (5, [.int (nI nn), .int nm, .int nl, .int no, .int nu, .ref n1, .ref n2, .ref n3, .ref n4, .ref n5, .ref n6, .ref n7, .ref n8, .ref n9, .ref n10])), (n9, .inl (T 0, 10, .inl nf9))] H locs := V _ [1] rfl rfl rfl (by decide +kernel) rfl
    show W p l e _ s m args below meth c H locs _ _ _ (F0 m 8 ls [.int (nI 1)])
    rw [f_2] at hl
    refine lv_if_eq (tgt := 29) hx hb dX7_ring_8 (by decide) (fun c => absurd (show (nI 1) = 0 from c) (by decide +kernel)) (fun _ => ?_)
    refine lv_aload_n hx hb dX7_ring_11 rfl (lv_at hl 0 rfl) ?_
    refine g_get hC V (ci := 7) uwX7 0 rfl rfl 0 (by decide) w_249 rfl rfl dX7_ring_12 ?_
    refine lv_aload_n hx hb dX7_ring_15 rfl (lv_at hl 0 rfl) ?_
    refine g_get hC V (ci := 7) uwX7 0 rfl rfl 0 (by decide) w_249 rfl rfl dX7_ring_16 ?_
    refine lv_iload_n hx hb dX7_ring_19 rfl (lv_at hl 1 rfl) ?_
    refine g_callVU (nA := 1) hC V hl.1 (s_inRing l D T n0 j_1 nn nm nl no nu n1 n2 n3 n4 n5 n6 n7 n8 n9 n10 nf9 (by first | assumption | omega) (by first | assumption | omega) (by first | assumption | omega)) w_566 w_567 w_568 w_3 w_569 (by decide +kernel) rfl ⟨(Nat.le_of_ble_eq_true rfl), (Nat.le_of_ble_eq_true rfl)⟩ 1 (ci := 5) rfl rfl [1, 2] rfl rfl (Nat.le_of_ble_eq_true rfl) dX7_ring_20 ⟨(Nat.le_of_ble_eq_true rfl), (Nat.le_of_ble_eq_true rfl)⟩ rfl (fun r w1 H locs hQ V => ?_)
    obtain ⟨r_5, rfl, rfl, f_6⟩ := hQ
    have V : gW D T A s [(o, .inr (7, [.ref n0, .ref s0, .ref im, .ref iz, .ref rw, .ref t0, .ref u0, .ref h0, .ref y0, sv])), (n0, .inr (5, [.int (nI nn), .int nm, .int nl, .int no, .int nu, .ref n1, .ref n2, .ref n3, .ref n4, .ref n5, .ref n6, .ref n7, .ref n8, .ref n9, .ref n10])), (n9, .inl (T 0, 10, .inl nf9))] H locs := V _ [1, 0] rfl rfl rfl (by decide +kernel) rfl
    show W p l e _ s m args below meth c H locs _ _ _ (F0 m 23 ls [.int (nI r_5), .ref n0])
    refine g_callVU (nA := 1) hC V hl.1 (s_ringLength l D T n0 r_5 nn nm nl no nu n1 n2 n3 n4 n5 n6 n7 n8 n9 n10 nf9 (by first | assumption | omega) (by first | assumption | omega) (by first | assumption | omega)) w_570 w_571 w_572 w_3 w_573 (by decide +kernel) rfl ⟨(Nat.le_of_ble_eq_true rfl), (Nat.le_of_ble_eq_true rfl)⟩ 1 (ci := 5) rfl rfl [1, 2] rfl rfl (Nat.le_of_ble_eq_true rfl) dX7_ring_23 ⟨(Nat.le_of_ble_eq_true rfl), (Nat.le_of_ble_eq_true rfl)⟩ rfl (fun r w1 H locs hQ V => ?_)
    obtain ⟨z_7, rfl, rfl⟩ := hQ
    have V : gW D T A s [(o, .inr (7, [.ref n0, .ref s0, .ref im, .ref iz, .ref rw, .ref t0, .ref u0, .ref h0, .ref y0, sv])), (n0, .inr (5, [.int (nI nn), .int nm, .int nl, .int no, .int nu, .ref n1, .ref n2, .ref n3, .ref n4, .ref n5, .ref n6, .ref n7, .ref n8, .ref n9, .ref n10])), (n9, .inl (T 0, 10, .inl nf9))] H locs := V _ [1, 0] rfl rfl rfl (by decide +kernel) rfl
    show W p l e _ s m args below meth c H locs _ _ _ (F0 m 26 ls [.int z_7])
    refine lv_goto (tgt := 31) hx hb dX7_ring_26 (by decide) ?_
    exact g_iret (Qr := (q_x_ring T o i n0 s0 im iz rw t0 u0 h0 y0 sv nn nm nl no nu n1 n2 n3 n4 n5 n6 n7 n8 n9 n10 nf9)) hC V ⟨(Nat.le_of_ble_eq_true rfl), (Nat.le_of_ble_eq_true rfl)⟩ ⟨z_7, rfl, rfl⟩ dX7_ring_31
  · have V : gW D T A s [(o, .inr (7, [.ref n0, .ref s0, .ref im, .ref iz, .ref rw, .ref t0, .ref u0, .ref h0, .ref y0, sv])), (n0, .inr (5, [.int (nI nn), .int nm, .int nl, .int no, .int nu, .ref n1, .ref n2, .ref n3, .ref n4, .ref n5, .ref n6, .ref n7, .ref n8, .ref n9, .ref n10])), (n9, .inl (T 0, 10, .inl nf9))] H locs := V _ [1] rfl rfl rfl (by decide +kernel) rfl
    show W p l e _ s m args below meth c H locs _ _ _ (F0 m 8 ls [.int (nI 0)])
    refine lv_if_eq (tgt := 29) hx hb dX7_ring_8 (by decide) (fun _ => ?_) (fun c => absurd (show (nI 0) = 0 by decide +kernel) c)
    refine lv_bipush (v := (-2)) hx hb dX7_ring_29 (by decide +kernel) ?_
    exact g_iret (Qr := (q_x_ring T o i n0 s0 im iz rw t0 u0 h0 y0 sv nn nm nl no nu n1 n2 n3 n4 n5 n6 n7 n8 n9 n10 nf9)) hC V ⟨(Nat.le_of_ble_eq_true rfl), (Nat.le_of_ble_eq_true rfl)⟩ ⟨(-2), rfl, rfl⟩ dX7_ring_31

def q_x_rings (T : Nat → ClassId) (o : Nat) (n0 : Nat) (s0 : Nat) (im : Nat) (iz : Nat) (rw : Nat) (t0 : Nat) (u0 : Nat) (h0 : Nat) (y0 : Nat) (sv : Value) (nn : Nat) (nm : Int32) (nl : Int32) (no : Int32) (nu : Int32) (n1 : Nat) (n2 : Nat) (n3 : Nat) (n4 : Nat) (n5 : Nat) (n6 : Nat) (n7 : Nat) (n8 : Nat) (n9 : Nat) (n10 : Nat) (nf9 : Nat → Int32) : Option Value → va_W → Prop := fun rr ww => (∃ (z : Int32), rr = some (.int z) ∧ ww = [(o, .inr (7, [.ref n0, .ref s0, .ref im, .ref iz, .ref rw, .ref t0, .ref u0, .ref h0, .ref y0, sv])), (n0, .inr (5, [.int (nI nn), .int nm, .int nl, .int no, .int nu, .ref n1, .ref n2, .ref n3, .ref n4, .ref n5, .ref n6, .ref n7, .ref n8, .ref n9, .ref n10])), (n9, .inl (T 0, 10, .inl nf9))])
set_option maxHeartbeats 4000000 in
set_option maxRecDepth 100000 in
theorem x_rings (l : Launch) (D : va_G) (T : Nat → ClassId) (o : Nat) (n0 : Nat) (s0 : Nat) (im : Nat) (iz : Nat) (rw : Nat) (t0 : Nat) (u0 : Nat) (h0 : Nat) (y0 : Nat) (sv : Value) (nn : Nat) (nm : Int32) (nl : Int32) (no : Int32) (nu : Int32) (n1 : Nat) (n2 : Nat) (n3 : Nat) (n4 : Nat) (n5 : Nat) (n6 : Nat) (n7 : Nat) (n8 : Nat) (n9 : Nat) (n10 : Nat) (nf9 : Nat → Int32) (h_n : nn ≤ 10) (h_t : ∀ i, i < nn → bd (nf9 i) nn) : Ct l yX7_rings cX7_rings 3 (some .int) 1 0 0 D T [.ref o] [(o, .inr (7, [.ref n0, .ref s0, .ref im, .ref iz, .ref rw, .ref t0, .ref u0, .ref h0, .ref y0, sv])), (n0, .inr (5, [.int (nI nn), .int nm, .int nl, .int no, .int nu, .ref n1, .ref n2, .ref n3, .ref n4, .ref n5, .ref n6, .ref n7, .ref n8, .ref n9, .ref n10])), (n9, .inl (T 0, 10, .inl nf9))] (q_x_rings T o n0 s0 im iz rw t0 u0 h0 y0 sv nn nm nl no nu n1 n2 n3 n4 n5 n6 n7 n8 n9 n10 nf9) := by
  refine Ct.of (cc := cX7_rings) (maxL := 3) (ret := (some .int)) (by decide) (Nat.le_of_ble_eq_true rfl) ?_
  intro p e s m args below meth c A ls hC hnm V hl
  obtain ⟨hx, hb, hr, hml, hown, hts, hlocks⟩ := id hC
  generalize hH : s.heap = H at V ⊢
  clear hH
  have hl : lv_has ls 3 [(0, .ref o)] := hl
  generalize hlo : ([] : List Loc) = locs at V ⊢
  clear hlo
  refine lv_iconst (v := (nI 0)) hx hb dX7_rings_0 (by decide +kernel) ?_
  refine lv_istore_n (lv' := [(1, .int (nI 0)), (0, .ref o)]) hx hb dX7_rings_1 rfl hl (by decide) rfl (fun ls hl => ?_)
  refine lv_iconst (v := (nI 0)) hx hb dX7_rings_2 (by decide +kernel) ?_
  refine lv_istore_n (lv' := [(2, .int (nI 0)), (1, .int (nI 0)), (0, .ref o)]) hx hb dX7_rings_3 rfl hl (by decide) rfl (fun ls hl => ?_)
  have L_1 : ∀ (fu : Nat) (k4 : Nat) (x4_1 : Int32), k4 ≤ nn → nn - k4 < fu → ∀ (H : Heap) (locs : List Loc) (ls : Array Slot), gW D T A s [(o, .inr (7, [.ref n0, .ref s0, .ref im, .ref iz, .ref rw, .ref t0, .ref u0, .ref h0, .ref y0, sv])), (n0, .inr (5, [.int (nI nn), .int nm, .int nl, .int no, .int nu, .ref n1, .ref n2, .ref n3, .ref n4, .ref n5, .ref n6, .ref n7, .ref n8, .ref n9, .ref n10])), (n9, .inl (T 0, 10, .inl nf9))] H locs → lv_has ls 3 [(2, .int (nI k4)), (1, .int x4_1), (0, .ref o)] → W p l e (rmD 1 0 0) s m args below meth c H locs 0 0 (MQ below (gQ D A (q_x_rings T o n0 s0 im iz rw t0 u0 h0 y0 sv nn nm nl no nu n1 n2 n3 n4 n5 n6 n7 n8 n9 n10 nf9)) args s 0 0 A) (F0 m 4 ls []) := by
    intro fu_4
    induction fu_4 with
    | zero => intro k4 x4_1 hk4 hmu; exact absurd hmu (Nat.not_lt_zero _)
    | succ fu_4 ih_4 =>
      intro k4 x4_1 hk4 hmu_4 H locs ls V hl
      refine lv_iload_n hx hb dX7_rings_4 rfl (lv_at hl 0 rfl) ?_
      refine lv_aload_n hx hb dX7_rings_5 rfl (lv_at hl 2 rfl) ?_
      refine g_get hC V (ci := 7) uwX7 0 rfl rfl 0 (by decide) w_249 rfl rfl dX7_rings_6 ?_
      refine g_get hC V (ci := 5) uwX5 1 rfl rfl 0 (by decide) w_38 rfl rfl dX7_rings_9 ?_
      refine lv_icmp_ge (tgt := 35) hx hb dX7_rings_12 (by decide) (fun c_2 => ?_) (fun c_2 => ?_)
      · skip
        have c_2 := b_le (by omega) (by omega) c_2
        refine lv_iload_n hx hb dX7_rings_35 rfl (lv_at hl 1 rfl) ?_
        exact g_iret (Qr := (q_x_rings T o n0 s0 im iz rw t0 u0 h0 y0 sv nn nm nl no nu n1 n2 n3 n4 n5 n6 n7 n8 n9 n10 nf9)) hC V ⟨(Nat.le_of_ble_eq_true rfl), (Nat.le_of_ble_eq_true rfl)⟩ ⟨x4_1, rfl, rfl⟩ dX7_rings_36
      · skip
        have c_2 := b_nle (by omega) (by omega) c_2
        refine lv_aload_n hx hb dX7_rings_15 rfl (lv_at hl 2 rfl) ?_
        refine g_get hC V (ci := 7) uwX7 0 rfl rfl 0 (by decide) w_249 rfl rfl dX7_rings_16 ?_
        refine lv_iload_n hx hb dX7_rings_19 rfl (lv_at hl 0 rfl) ?_
        refine g_callVU (nA := 1) hC V hl.1 (s_isLeastOfRing l D T n0 k4 nn nm nl no nu n1 n2 n3 n4 n5 n6 n7 n8 n9 n10 nf9 (by first | assumption | omega) (by first | assumption | omega) (by first | assumption | omega)) w_578 w_579 w_580 w_3 w_581 (by decide +kernel) rfl ⟨(Nat.le_of_ble_eq_true rfl), (Nat.le_of_ble_eq_true rfl)⟩ 1 (ci := 5) rfl rfl [1, 2] rfl rfl (Nat.le_of_ble_eq_true rfl) dX7_rings_20 ⟨(Nat.le_of_ble_eq_true rfl), (Nat.le_of_ble_eq_true rfl)⟩ rfl (fun r w1 H locs hQ V => ?_)
        rcases hQ with ⟨rfl, rfl⟩ | ⟨rfl, rfl⟩
        · have V : gW D T A s [(o, .inr (7, [.ref n0, .ref s0, .ref im, .ref iz, .ref rw, .ref t0, .ref u0, .ref h0, .ref y0, sv])), (n0, .inr (5, [.int (nI nn), .int nm, .int nl, .int no, .int nu, .ref n1, .ref n2, .ref n3, .ref n4, .ref n5, .ref n6, .ref n7, .ref n8, .ref n9, .ref n10])), (n9, .inl (T 0, 10, .inl nf9))] H locs := V _ [1, 0] rfl rfl rfl (by decide +kernel) rfl
          show W p l e _ s m args below meth c H locs _ _ _ (F0 m 23 ls [.int (nI 1)])
          refine lv_if_eq (tgt := 29) hx hb dX7_rings_23 (by decide) (fun c => absurd (show (nI 1) = 0 from c) (by decide +kernel)) (fun _ => ?_)
          refine lv_iinc (v := (x4_1 + 1)) (lv' := [(1, .int (x4_1 + 1)), (2, .int (nI k4)), (0, .ref o)]) hx hb dX7_rings_26 hl (k := 1) rfl rfl (by decide) rfl (fun ls hl => ?_)
          refine lv_iinc (v := (nI (k4 + 1))) (lv' := [(2, .int (nI (k4 + 1))), (1, .int (x4_1 + 1)), (0, .ref o)]) hx hb dX7_rings_29 hl (k := 1) rfl (nI_1 _) (by decide) rfl (fun ls hl => ?_)
          refine lv_goto (tgt := 4) hx hb dX7_rings_32 (by decide) ?_
          exact ih_4 (k4 + 1) (x4_1 + 1) (by omega) (by omega) _ _ _ V (lv_sub hl [0, 1, 2] rfl)
        · have V : gW D T A s [(o, .inr (7, [.ref n0, .ref s0, .ref im, .ref iz, .ref rw, .ref t0, .ref u0, .ref h0, .ref y0, sv])), (n0, .inr (5, [.int (nI nn), .int nm, .int nl, .int no, .int nu, .ref n1, .ref n2, .ref n3, .ref n4, .ref n5, .ref n6, .ref n7, .ref n8, .ref n9, .ref n10])), (n9, .inl (T 0, 10, .inl nf9))] H locs := V _ [1, 0] rfl rfl rfl (by decide +kernel) rfl
          show W p l e _ s m args below meth c H locs _ _ _ (F0 m 23 ls [.int (nI 0)])
          refine lv_if_eq (tgt := 29) hx hb dX7_rings_23 (by decide) (fun _ => ?_) (fun c => absurd (show (nI 0) = 0 by decide +kernel) c)
          refine lv_iinc (v := (nI (k4 + 1))) (lv' := [(2, .int (nI (k4 + 1))), (1, .int x4_1), (0, .ref o)]) hx hb dX7_rings_29 hl (k := 0) rfl (nI_1 _) (by decide) rfl (fun ls hl => ?_)
          refine lv_goto (tgt := 4) hx hb dX7_rings_32 (by decide) ?_
          exact ih_4 (k4 + 1) x4_1 (by omega) (by omega) _ _ _ V (lv_sub hl [0, 1, 2] rfl)
  exact L_1 _ 0 (nI 0) (by omega) (Nat.lt_succ_self _) _ _ _ V (lv_sub hl [0, 1, 2] rfl)

def q_x_steps (T : Nat → ClassId) (o : Nat) (i : Int32) (to : Int32) (n0 : Nat) (s0 : Nat) (im : Nat) (iz : Nat) (rw : Nat) (t0 : Nat) (u0 : Nat) (h0 : Nat) (y0 : Nat) (sv : Value) (nn : Nat) (nm : Int32) (nl : Int32) (no : Int32) (nu : Int32) (n1 : Nat) (n2 : Nat) (n3 : Nat) (n4 : Nat) (n5 : Nat) (n6 : Nat) (n7 : Nat) (n8 : Nat) (n9 : Nat) (n10 : Nat) (nf9 : Nat → Int32) : Option Value → va_W → Prop := fun rr ww => (∃ (z : Int32), rr = some (.int z) ∧ ww = [(o, .inr (7, [.ref n0, .ref s0, .ref im, .ref iz, .ref rw, .ref t0, .ref u0, .ref h0, .ref y0, sv])), (n0, .inr (5, [.int (nI nn), .int nm, .int nl, .int no, .int nu, .ref n1, .ref n2, .ref n3, .ref n4, .ref n5, .ref n6, .ref n7, .ref n8, .ref n9, .ref n10])), (n9, .inl (T 0, 10, .inl nf9))])
set_option maxHeartbeats 4000000 in
set_option maxRecDepth 100000 in
theorem x_steps (l : Launch) (D : va_G) (T : Nat → ClassId) (o : Nat) (i : Int32) (to : Int32) (n0 : Nat) (s0 : Nat) (im : Nat) (iz : Nat) (rw : Nat) (t0 : Nat) (u0 : Nat) (h0 : Nat) (y0 : Nat) (sv : Value) (nn : Nat) (nm : Int32) (nl : Int32) (no : Int32) (nu : Int32) (n1 : Nat) (n2 : Nat) (n3 : Nat) (n4 : Nat) (n5 : Nat) (n6 : Nat) (n7 : Nat) (n8 : Nat) (n9 : Nat) (n10 : Nat) (nf9 : Nat → Int32) (h_n : nn ≤ 10) (h_t : ∀ i, i < nn → bd (nf9 i) nn) : Ct l yX7_steps cX7_steps 5 (some .int) 1 0 0 D T [.ref o, .int i, .int to] [(o, .inr (7, [.ref n0, .ref s0, .ref im, .ref iz, .ref rw, .ref t0, .ref u0, .ref h0, .ref y0, sv])), (n0, .inr (5, [.int (nI nn), .int nm, .int nl, .int no, .int nu, .ref n1, .ref n2, .ref n3, .ref n4, .ref n5, .ref n6, .ref n7, .ref n8, .ref n9, .ref n10])), (n9, .inl (T 0, 10, .inl nf9))] (q_x_steps T o i to n0 s0 im iz rw t0 u0 h0 y0 sv nn nm nl no nu n1 n2 n3 n4 n5 n6 n7 n8 n9 n10 nf9) := by
  refine Ct.of (cc := cX7_steps) (maxL := 5) (ret := (some .int)) (by decide) (Nat.le_of_ble_eq_true rfl) ?_
  intro p e s m args below meth c A ls hC hnm V hl
  obtain ⟨hx, hb, hr, hml, hown, hts, hlocks⟩ := id hC
  generalize hH : s.heap = H at V ⊢
  clear hH
  have hl : lv_has ls 5 [(0, .ref o), (1, .int i), (2, .int to)] := hl
  generalize hlo : ([] : List Loc) = locs at V ⊢
  clear hlo
  refine lv_aload_n hx hb dX7_steps_0 rfl (lv_at hl 0 rfl) ?_
  refine g_get hC V (ci := 7) uwX7 0 rfl rfl 0 (by decide) w_249 rfl rfl dX7_steps_1 ?_
  refine lv_iload_n hx hb dX7_steps_4 rfl (lv_at hl 1 rfl) ?_
  refine g_callVU (nA := 1) hC V hl.1 (s_isSmith l D T n0 i nn nm nl no nu n1 n2 n3 n4 n5 n6 n7 n8 n9 n10 (by first | assumption | omega)) w_425 w_426 w_427 w_3 w_428 (by decide +kernel) rfl ⟨(Nat.le_of_ble_eq_true rfl), (Nat.le_of_ble_eq_true rfl)⟩ 1 (ci := 5) rfl rfl [1] rfl rfl (Nat.le_of_ble_eq_true rfl) dX7_steps_5 ⟨(Nat.le_of_ble_eq_true rfl), (Nat.le_of_ble_eq_true rfl)⟩ rfl (fun r w1 H locs hQ V => ?_)
  rcases hQ with ⟨j_1, rfl, rfl, f_2, f_3⟩ | ⟨rfl, rfl, f_4⟩
  · have V : gW D T A s [(o, .inr (7, [.ref n0, .ref s0, .ref im, .ref iz, .ref rw, .ref t0, .ref u0, .ref h0, .ref y0, sv])), (n0, .inr (5, [.int (nI nn), .int nm, .int nl, .int no, .int nu, .ref n1, .ref n2, .ref n3, .ref n4, .ref n5, .ref n6, .ref n7, .ref n8, .ref n9, .ref n10])), (n9, .inl (T 0, 10, .inl nf9))] H locs := V _ [1] rfl rfl rfl (by decide +kernel) rfl
    show W p l e _ s m args below meth c H locs _ _ _ (F0 m 8 ls [.int (nI 1)])
    rw [f_2] at hl
    refine lv_if_eq (tgt := 22) hx hb dX7_steps_8 (by decide) (fun c => absurd (show (nI 1) = 0 from c) (by decide +kernel)) (fun _ => ?_)
    refine lv_aload_n hx hb dX7_steps_11 rfl (lv_at hl 0 rfl) ?_
    refine g_get hC V (ci := 7) uwX7 0 rfl rfl 0 (by decide) w_249 rfl rfl dX7_steps_12 ?_
    refine lv_iload_n hx hb dX7_steps_15 rfl (lv_at hl 2 rfl) ?_
    refine g_callVU (nA := 1) hC V hl.1 (s_isSmith l D T n0 to nn nm nl no nu n1 n2 n3 n4 n5 n6 n7 n8 n9 n10 (by first | assumption | omega)) w_425 w_426 w_427 w_3 w_428 (by decide +kernel) rfl ⟨(Nat.le_of_ble_eq_true rfl), (Nat.le_of_ble_eq_true rfl)⟩ 1 (ci := 5) rfl rfl [1] rfl rfl (Nat.le_of_ble_eq_true rfl) dX7_steps_16 ⟨(Nat.le_of_ble_eq_true rfl), (Nat.le_of_ble_eq_true rfl)⟩ rfl (fun r w1 H locs hQ V => ?_)
    rcases hQ with ⟨j_5, rfl, rfl, f_6, f_7⟩ | ⟨rfl, rfl, f_8⟩
    · have V : gW D T A s [(o, .inr (7, [.ref n0, .ref s0, .ref im, .ref iz, .ref rw, .ref t0, .ref u0, .ref h0, .ref y0, sv])), (n0, .inr (5, [.int (nI nn), .int nm, .int nl, .int no, .int nu, .ref n1, .ref n2, .ref n3, .ref n4, .ref n5, .ref n6, .ref n7, .ref n8, .ref n9, .ref n10])), (n9, .inl (T 0, 10, .inl nf9))] H locs := V _ [1] rfl rfl rfl (by decide +kernel) rfl
      show W p l e _ s m args below meth c H locs _ _ _ (F0 m 19 ls [.int (nI 1)])
      rw [f_6] at hl
      refine lv_if_ne (tgt := 25) hx hb dX7_steps_19 (by decide) (fun _ => ?_) (fun c => absurd (show (nI 1) = 0 from c) (by decide +kernel))
      refine lv_iload_n hx hb dX7_steps_25 rfl (lv_at hl 1 rfl) ?_
      refine lv_istore_n (lv' := [(3, .int (nI j_1)), (0, .ref o), (1, .int (nI j_1)), (2, .int (nI j_5))]) hx hb dX7_steps_26 rfl hl (by decide) rfl (fun ls hl => ?_)
      refine lv_iconst (v := (nI 0)) hx hb dX7_steps_27 (by decide +kernel) ?_
      refine lv_istore (lv' := [(4, .int (nI 0)), (3, .int (nI j_1)), (0, .ref o), (1, .int (nI j_1)), (2, .int (nI j_5))]) hx hb dX7_steps_28 hl (by decide) rfl (fun ls hl => ?_)
      have L_9 : ∀ (fu : Nat) (k30 : Nat) (at_ : Nat), k30 ≤ nn → at_ < nn → nn - k30 < fu → ∀ (H : Heap) (locs : List Loc) (ls : Array Slot), gW D T A s [(o, .inr (7, [.ref n0, .ref s0, .ref im, .ref iz, .ref rw, .ref t0, .ref u0, .ref h0, .ref y0, sv])), (n0, .inr (5, [.int (nI nn), .int nm, .int nl, .int no, .int nu, .ref n1, .ref n2, .ref n3, .ref n4, .ref n5, .ref n6, .ref n7, .ref n8, .ref n9, .ref n10])), (n9, .inl (T 0, 10, .inl nf9))] H locs → lv_has ls 5 [(4, .int (nI k30)), (3, .int (nI at_)), (0, .ref o), (1, .int (nI j_1)), (2, .int (nI j_5))] → W p l e (rmD 1 0 0) s m args below meth c H locs 0 0 (MQ below (gQ D A (q_x_steps T o i to n0 s0 im iz rw t0 u0 h0 y0 sv nn nm nl no nu n1 n2 n3 n4 n5 n6 n7 n8 n9 n10 nf9)) args s 0 0 A) (F0 m 30 ls []) := by
        intro fu_30
        induction fu_30 with
        | zero => intro k30 at_ hk30 hat hmu; exact absurd hmu (Nat.not_lt_zero _)
        | succ fu_30 ih_30 =>
          intro k30 at_ hk30 hat hmu_30 H locs ls V hl
          refine lv_iload hx hb dX7_steps_30 (lv_at hl 0 rfl) ?_
          refine lv_aload_n hx hb dX7_steps_32 rfl (lv_at hl 2 rfl) ?_
          refine g_get hC V (ci := 7) uwX7 0 rfl rfl 0 (by decide) w_249 rfl rfl dX7_steps_33 ?_
          refine g_get hC V (ci := 5) uwX5 1 rfl rfl 0 (by decide) w_38 rfl rfl dX7_steps_36 ?_
          refine lv_icmp_ge (tgt := 66) hx hb dX7_steps_39 (by decide) (fun c_10 => ?_) (fun c_10 => ?_)
          · skip
            have c_10 := b_le (by omega) (by omega) c_10
            refine lv_iconst (v := (-1)) hx hb dX7_steps_66 (by decide +kernel) ?_
            exact g_iret (Qr := (q_x_steps T o i to n0 s0 im iz rw t0 u0 h0 y0 sv nn nm nl no nu n1 n2 n3 n4 n5 n6 n7 n8 n9 n10 nf9)) hC V ⟨(Nat.le_of_ble_eq_true rfl), (Nat.le_of_ble_eq_true rfl)⟩ ⟨(-1), rfl, rfl⟩ dX7_steps_67
          · skip
            have c_10 := b_nle (by omega) (by omega) c_10
            refine lv_iload_n hx hb dX7_steps_42 rfl (lv_at hl 1 rfl) ?_
            refine lv_iload_n hx hb dX7_steps_43 rfl (lv_at hl 4 rfl) ?_
            refine lv_icmp_ne (tgt := 50) hx hb dX7_steps_44 (by decide) (fun c_11 => ?_) (fun c_11 => ?_)
            · skip
              have c_11 := b_ne (by omega) (by omega) c_11
              refine lv_aload_n hx hb dX7_steps_50 rfl (lv_at hl 2 rfl) ?_
              refine g_get hC V (ci := 7) uwX7 0 rfl rfl 0 (by decide) w_249 rfl rfl dX7_steps_51 ?_
              refine g_get hC V (ci := 5) uwX5 1 rfl rfl 13 (by decide) w_84 rfl rfl dX7_steps_54 ?_
              refine lv_iload_n hx hb dX7_steps_57 rfl (lv_at hl 1 rfl) ?_
              obtain ⟨j_12, hj_12, ej_12⟩ := bd_ex (h_t at_ (by omega))
              refine g_iald hC V 2 rfl (vp_in_nI (by omega) (by omega)) (v := (nI j_12)) (by rw [nI_clamp (by omega)]; exact ej_12) dX7_steps_58 ?_
              refine lv_istore_n (lv' := [(3, .int (nI j_12)), (4, .int (nI k30)), (0, .ref o), (1, .int (nI j_1)), (2, .int (nI j_5))]) hx hb dX7_steps_59 rfl hl (by decide) rfl (fun ls hl => ?_)
              refine lv_iinc (v := (nI (k30 + 1))) (lv' := [(4, .int (nI (k30 + 1))), (3, .int (nI j_12)), (0, .ref o), (1, .int (nI j_1)), (2, .int (nI j_5))]) hx hb dX7_steps_60 hl (k := 1) rfl (nI_1 _) (by decide) rfl (fun ls hl => ?_)
              refine lv_goto (tgt := 30) hx hb dX7_steps_63 (by decide) ?_
              exact ih_30 (k30 + 1) j_12 (by omega) (by assumption) (by omega) _ _ _ V (lv_sub hl [0, 1, 2, 3, 4] rfl)
            · skip
              have c_11 := b_eq (by omega) (by omega) c_11
              refine lv_iload hx hb dX7_steps_47 (lv_at hl 0 rfl) ?_
              exact g_iret (Qr := (q_x_steps T o i to n0 s0 im iz rw t0 u0 h0 y0 sv nn nm nl no nu n1 n2 n3 n4 n5 n6 n7 n8 n9 n10 nf9)) hC V ⟨(Nat.le_of_ble_eq_true rfl), (Nat.le_of_ble_eq_true rfl)⟩ ⟨(nI k30), rfl, rfl⟩ dX7_steps_49
      exact L_9 _ 0 j_1 (by omega) (by assumption) (Nat.lt_succ_self _) _ _ _ V (lv_sub hl [0, 1, 2, 3, 4] rfl)
    · have V : gW D T A s [(o, .inr (7, [.ref n0, .ref s0, .ref im, .ref iz, .ref rw, .ref t0, .ref u0, .ref h0, .ref y0, sv])), (n0, .inr (5, [.int (nI nn), .int nm, .int nl, .int no, .int nu, .ref n1, .ref n2, .ref n3, .ref n4, .ref n5, .ref n6, .ref n7, .ref n8, .ref n9, .ref n10])), (n9, .inl (T 0, 10, .inl nf9))] H locs := V _ [1] rfl rfl rfl (by decide +kernel) rfl
      show W p l e _ s m args below meth c H locs _ _ _ (F0 m 19 ls [.int (nI 0)])
      refine lv_if_ne (tgt := 25) hx hb dX7_steps_19 (by decide) (fun c => absurd (show (nI 0) = 0 by decide +kernel) c) (fun _ => ?_)
      refine lv_bipush (v := (-2)) hx hb dX7_steps_22 (by decide +kernel) ?_
      exact g_iret (Qr := (q_x_steps T o i to n0 s0 im iz rw t0 u0 h0 y0 sv nn nm nl no nu n1 n2 n3 n4 n5 n6 n7 n8 n9 n10 nf9)) hC V ⟨(Nat.le_of_ble_eq_true rfl), (Nat.le_of_ble_eq_true rfl)⟩ ⟨(-2), rfl, rfl⟩ dX7_steps_24
  · have V : gW D T A s [(o, .inr (7, [.ref n0, .ref s0, .ref im, .ref iz, .ref rw, .ref t0, .ref u0, .ref h0, .ref y0, sv])), (n0, .inr (5, [.int (nI nn), .int nm, .int nl, .int no, .int nu, .ref n1, .ref n2, .ref n3, .ref n4, .ref n5, .ref n6, .ref n7, .ref n8, .ref n9, .ref n10])), (n9, .inl (T 0, 10, .inl nf9))] H locs := V _ [1] rfl rfl rfl (by decide +kernel) rfl
    show W p l e _ s m args below meth c H locs _ _ _ (F0 m 8 ls [.int (nI 0)])
    refine lv_if_eq (tgt := 22) hx hb dX7_steps_8 (by decide) (fun _ => ?_) (fun c => absurd (show (nI 0) = 0 by decide +kernel) c)
    refine lv_bipush (v := (-2)) hx hb dX7_steps_22 (by decide +kernel) ?_
    exact g_iret (Qr := (q_x_steps T o i to n0 s0 im iz rw t0 u0 h0 y0 sv nn nm nl no nu n1 n2 n3 n4 n5 n6 n7 n8 n9 n10 nf9)) hC V ⟨(Nat.le_of_ble_eq_true rfl), (Nat.le_of_ble_eq_true rfl)⟩ ⟨(-2), rfl, rfl⟩ dX7_steps_24

def q_x_unblown (T : Nat → ClassId) (o : Nat) (n0 : Nat) (s0 : Nat) (im : Nat) (iz : Nat) (rw : Nat) (t0 : Nat) (u0 : Nat) (h0 : Nat) (y0 : Nat) (sv : Value) (nn : Nat) (nm : Int32) (nl : Int32) (no : Int32) (nu : Int32) (n1 : Nat) (n2 : Nat) (n3 : Nat) (n4 : Nat) (n5 : Nat) (n6 : Nat) (n7 : Nat) (n8 : Nat) (n9 : Nat) (n10 : Nat) (nf9 : Nat → Int32) : Option Value → va_W → Prop := fun rr ww => (∃ (z : Int32), rr = some (.int z) ∧ ww = [(o, .inr (7, [.ref n0, .ref s0, .ref im, .ref iz, .ref rw, .ref t0, .ref u0, .ref h0, .ref y0, sv])), (n0, .inr (5, [.int (nI nn), .int nm, .int nl, .int no, .int nu, .ref n1, .ref n2, .ref n3, .ref n4, .ref n5, .ref n6, .ref n7, .ref n8, .ref n9, .ref n10])), (n9, .inl (T 0, 10, .inl nf9))])
set_option maxHeartbeats 4000000 in
set_option maxRecDepth 100000 in
theorem x_unblown (l : Launch) (D : va_G) (T : Nat → ClassId) (o : Nat) (n0 : Nat) (s0 : Nat) (im : Nat) (iz : Nat) (rw : Nat) (t0 : Nat) (u0 : Nat) (h0 : Nat) (y0 : Nat) (sv : Value) (nn : Nat) (nm : Int32) (nl : Int32) (no : Int32) (nu : Int32) (n1 : Nat) (n2 : Nat) (n3 : Nat) (n4 : Nat) (n5 : Nat) (n6 : Nat) (n7 : Nat) (n8 : Nat) (n9 : Nat) (n10 : Nat) (nf9 : Nat → Int32) (h_n : nn ≤ 10) : Ct l yX7_unblown cX7_unblown 3 (some .int) 1 0 0 D T [.ref o] [(o, .inr (7, [.ref n0, .ref s0, .ref im, .ref iz, .ref rw, .ref t0, .ref u0, .ref h0, .ref y0, sv])), (n0, .inr (5, [.int (nI nn), .int nm, .int nl, .int no, .int nu, .ref n1, .ref n2, .ref n3, .ref n4, .ref n5, .ref n6, .ref n7, .ref n8, .ref n9, .ref n10])), (n9, .inl (T 0, 10, .inl nf9))] (q_x_unblown T o n0 s0 im iz rw t0 u0 h0 y0 sv nn nm nl no nu n1 n2 n3 n4 n5 n6 n7 n8 n9 n10 nf9) := by
  refine Ct.of (cc := cX7_unblown) (maxL := 3) (ret := (some .int)) (by decide) (Nat.le_of_ble_eq_true rfl) ?_
  intro p e s m args below meth c A ls hC hnm V hl
  obtain ⟨hx, hb, hr, hml, hown, hts, hlocks⟩ := id hC
  generalize hH : s.heap = H at V ⊢
  clear hH
  have hl : lv_has ls 3 [(0, .ref o)] := hl
  generalize hlo : ([] : List Loc) = locs at V ⊢
  clear hlo
  refine lv_iconst (v := (nI 0)) hx hb dX7_unblown_0 (by decide +kernel) ?_
  refine lv_istore_n (lv' := [(1, .int (nI 0)), (0, .ref o)]) hx hb dX7_unblown_1 rfl hl (by decide) rfl (fun ls hl => ?_)
  refine lv_iconst (v := (nI 0)) hx hb dX7_unblown_2 (by decide +kernel) ?_
  refine lv_istore_n (lv' := [(2, .int (nI 0)), (1, .int (nI 0)), (0, .ref o)]) hx hb dX7_unblown_3 rfl hl (by decide) rfl (fun ls hl => ?_)
  have L_1 : ∀ (fu : Nat) (k4 : Nat) (x4_1 : Int32), k4 ≤ nn → nn - k4 < fu → ∀ (H : Heap) (locs : List Loc) (ls : Array Slot), gW D T A s [(o, .inr (7, [.ref n0, .ref s0, .ref im, .ref iz, .ref rw, .ref t0, .ref u0, .ref h0, .ref y0, sv])), (n0, .inr (5, [.int (nI nn), .int nm, .int nl, .int no, .int nu, .ref n1, .ref n2, .ref n3, .ref n4, .ref n5, .ref n6, .ref n7, .ref n8, .ref n9, .ref n10])), (n9, .inl (T 0, 10, .inl nf9))] H locs → lv_has ls 3 [(2, .int (nI k4)), (1, .int x4_1), (0, .ref o)] → W p l e (rmD 1 0 0) s m args below meth c H locs 0 0 (MQ below (gQ D A (q_x_unblown T o n0 s0 im iz rw t0 u0 h0 y0 sv nn nm nl no nu n1 n2 n3 n4 n5 n6 n7 n8 n9 n10 nf9)) args s 0 0 A) (F0 m 4 ls []) := by
    intro fu_4
    induction fu_4 with
    | zero => intro k4 x4_1 hk4 hmu; exact absurd hmu (Nat.not_lt_zero _)
    | succ fu_4 ih_4 =>
      intro k4 x4_1 hk4 hmu_4 H locs ls V hl
      refine lv_iload_n hx hb dX7_unblown_4 rfl (lv_at hl 0 rfl) ?_
      refine lv_aload_n hx hb dX7_unblown_5 rfl (lv_at hl 2 rfl) ?_
      refine g_get hC V (ci := 7) uwX7 0 rfl rfl 0 (by decide) w_249 rfl rfl dX7_unblown_6 ?_
      refine g_get hC V (ci := 5) uwX5 1 rfl rfl 0 (by decide) w_38 rfl rfl dX7_unblown_9 ?_
      refine lv_icmp_ge (tgt := 38) hx hb dX7_unblown_12 (by decide) (fun c_2 => ?_) (fun c_2 => ?_)
      · skip
        have c_2 := b_le (by omega) (by omega) c_2
        refine lv_iload_n hx hb dX7_unblown_38 rfl (lv_at hl 1 rfl) ?_
        exact g_iret (Qr := (q_x_unblown T o n0 s0 im iz rw t0 u0 h0 y0 sv nn nm nl no nu n1 n2 n3 n4 n5 n6 n7 n8 n9 n10 nf9)) hC V ⟨(Nat.le_of_ble_eq_true rfl), (Nat.le_of_ble_eq_true rfl)⟩ ⟨x4_1, rfl, rfl⟩ dX7_unblown_39
      · skip
        have c_2 := b_nle (by omega) (by omega) c_2
        refine lv_aload_n hx hb dX7_unblown_15 rfl (lv_at hl 2 rfl) ?_
        refine g_get hC V (ci := 7) uwX7 0 rfl rfl 0 (by decide) w_249 rfl rfl dX7_unblown_16 ?_
        refine lv_iload_n hx hb dX7_unblown_19 rfl (lv_at hl 0 rfl) ?_
        refine g_callVU (nA := 1) hC V hl.1 (s_blowersOf l D T n0 (nI k4) nn nm nl no nu n1 n2 n3 n4 n5 n6 n7 n8 n9 n10 nf9 (by first | assumption | omega)) w_437 w_438 w_439 w_3 w_440 (by decide +kernel) rfl ⟨(Nat.le_of_ble_eq_true rfl), (Nat.le_of_ble_eq_true rfl)⟩ 1 (ci := 5) rfl rfl [1, 2] rfl rfl (Nat.le_of_ble_eq_true rfl) dX7_unblown_20 ⟨(Nat.le_of_ble_eq_true rfl), (Nat.le_of_ble_eq_true rfl)⟩ rfl (fun r w1 H locs hQ V => ?_)
        obtain ⟨z_3, rfl, rfl⟩ := hQ
        have V : gW D T A s [(o, .inr (7, [.ref n0, .ref s0, .ref im, .ref iz, .ref rw, .ref t0, .ref u0, .ref h0, .ref y0, sv])), (n0, .inr (5, [.int (nI nn), .int nm, .int nl, .int no, .int nu, .ref n1, .ref n2, .ref n3, .ref n4, .ref n5, .ref n6, .ref n7, .ref n8, .ref n9, .ref n10])), (n9, .inl (T 0, 10, .inl nf9))] H locs := V _ [1, 0] rfl rfl rfl (by decide +kernel) rfl
        show W p l e _ s m args below meth c H locs _ _ _ (F0 m 23 ls [.int z_3])
        refine lv_if_ne (tgt := 32) hx hb dX7_unblown_23 (by decide) (fun c_4 => ?_) (fun c_4 => ?_)
        · skip
          refine lv_iinc (v := (nI (k4 + 1))) (lv' := [(2, .int (nI (k4 + 1))), (1, .int x4_1), (0, .ref o)]) hx hb dX7_unblown_32 hl (k := 0) rfl (nI_1 _) (by decide) rfl (fun ls hl => ?_)
          refine lv_goto (tgt := 4) hx hb dX7_unblown_35 (by decide) ?_
          exact ih_4 (k4 + 1) x4_1 (by omega) (by omega) _ _ _ V (lv_sub hl [0, 1, 2] rfl)
        · skip
          refine lv_iload_n hx hb dX7_unblown_26 rfl (lv_at hl 1 rfl) ?_
          refine lv_iconst (v := (nI 1)) hx hb dX7_unblown_27 (by decide +kernel) ?_
          refine lv_iload_n hx hb dX7_unblown_28 rfl (lv_at hl 0 rfl) ?_
          refine lv_ishl hx hb dX7_unblown_29 ?_
          refine lv_ior hx hb dX7_unblown_30 ?_
          refine lv_istore_n (lv' := [(1, .int (x4_1 ||| ((nI 1) <<< ((nI k4) &&& 31)))), (2, .int (nI k4)), (0, .ref o)]) hx hb dX7_unblown_31 rfl hl (by decide) rfl (fun ls hl => ?_)
          refine lv_iinc (v := (nI (k4 + 1))) (lv' := [(2, .int (nI (k4 + 1))), (1, .int (x4_1 ||| ((nI 1) <<< ((nI k4) &&& 31)))), (0, .ref o)]) hx hb dX7_unblown_32 hl (k := 1) rfl (nI_1 _) (by decide) rfl (fun ls hl => ?_)
          refine lv_goto (tgt := 4) hx hb dX7_unblown_35 (by decide) ?_
          exact ih_4 (k4 + 1) (x4_1 ||| ((nI 1) <<< ((nI k4) &&& 31))) (by omega) (by omega) _ _ _ V (lv_sub hl [0, 1, 2] rfl)
  exact L_1 _ 0 (nI 0) (by omega) (Nat.lt_succ_self _) _ _ _ V (lv_sub hl [0, 1, 2] rfl)
