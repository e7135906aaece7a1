def q_x_smith (T : Nat → ClassId) (o : Nat) (i : Int32) (wh : Int32) (n0 : Nat) (s0 : Nat) (im : Nat) (iz : Nat) (rw : Nat) (t0 : Nat) (u0 : Nat) (h0 : Nat) (y0 : Nat) (sv : Value) (nn : Nat) (nm : Int32) (nl : Int32) (no : Int32) (nu : Int32) (n1 : Nat) (n2 : Nat) (n3 : Nat) (n4 : Nat) (n5 : Nat) (n6 : Nat) (n7 : Nat) (n8 : Nat) (n9 : Nat) (n10 : Nat) (nf1 : Nat → Int32) (nf2 : Nat → Int32) (nf3 : Nat → Int32) (nf4 : Nat → Int32) (nf5 : Nat → Int32) (nf6 : Nat → Int32) (nf7 : Nat → Int32) (nf8 : Nat → Int32) (nf9 : Nat → Int32) : Option Value → va_W → Prop := fun rr ww => (∃ (z : Int32), rr = some (.int z) ∧ ww = [(o, .inr (7, [.ref n0, .ref s0, .ref im, .ref iz, .ref rw, .ref t0, .ref u0, .ref h0, .ref y0, sv])), (n0, .inr (5, [.int (nI nn), .int nm, .int nl, .int no, .int nu, .ref n1, .ref n2, .ref n3, .ref n4, .ref n5, .ref n6, .ref n7, .ref n8, .ref n9, .ref n10])), (n1, .inl (T 0, 10, .inl nf1)), (n2, .inl (T 0, 10, .inl nf2)), (n3, .inl (T 0, 10, .inl nf3)), (n4, .inl (T 0, 10, .inl nf4)), (n5, .inl (T 0, 10, .inl nf5)), (n6, .inl (T 0, 10, .inl nf6)), (n7, .inl (T 0, 10, .inl nf7)), (n8, .inl (T 0, 10, .inl nf8)), (n9, .inl (T 0, 10, .inl nf9))])
set_option maxHeartbeats 4000000 in
set_option maxRecDepth 100000 in
theorem x_smith (l : Launch) (D : va_G) (T : Nat → ClassId) (o : Nat) (i : Int32) (wh : Int32) (n0 : Nat) (s0 : Nat) (im : Nat) (iz : Nat) (rw : Nat) (t0 : Nat) (u0 : Nat) (h0 : Nat) (y0 : Nat) (sv : Value) (nn : Nat) (nm : Int32) (nl : Int32) (no : Int32) (nu : Int32) (n1 : Nat) (n2 : Nat) (n3 : Nat) (n4 : Nat) (n5 : Nat) (n6 : Nat) (n7 : Nat) (n8 : Nat) (n9 : Nat) (n10 : Nat) (nf1 : Nat → Int32) (nf2 : Nat → Int32) (nf3 : Nat → Int32) (nf4 : Nat → Int32) (nf5 : Nat → Int32) (nf6 : Nat → Int32) (nf7 : Nat → Int32) (nf8 : Nat → Int32) (nf9 : Nat → Int32) (h_n : nn ≤ 10) : Ct l yX7_smith cX7_smith 3 (some .int) 1 0 0 D T [.ref o, .int i, .int wh] [(o, .inr (7, [.ref n0, .ref s0, .ref im, .ref iz, .ref rw, .ref t0, .ref u0, .ref h0, .ref y0, sv])), (n0, .inr (5, [.int (nI nn), .int nm, .int nl, .int no, .int nu, .ref n1, .ref n2, .ref n3, .ref n4, .ref n5, .ref n6, .ref n7, .ref n8, .ref n9, .ref n10])), (n1, .inl (T 0, 10, .inl nf1)), (n2, .inl (T 0, 10, .inl nf2)), (n3, .inl (T 0, 10, .inl nf3)), (n4, .inl (T 0, 10, .inl nf4)), (n5, .inl (T 0, 10, .inl nf5)), (n6, .inl (T 0, 10, .inl nf6)), (n7, .inl (T 0, 10, .inl nf7)), (n8, .inl (T 0, 10, .inl nf8)), (n9, .inl (T 0, 10, .inl nf9))] (q_x_smith T o i wh n0 s0 im iz rw t0 u0 h0 y0 sv nn nm nl no nu n1 n2 n3 n4 n5 n6 n7 n8 n9 n10 nf1 nf2 nf3 nf4 nf5 nf6 nf7 nf8 nf9) := by
  refine Ct.of (cc := cX7_smith) (maxL := 3) (ret := (some .int)) (by decide) (Nat.le_of_ble_eq_true rfl) ?_
  intro p e s m args below meth c A ls hC hnm V hl
  obtain ⟨hx, hb, hr, hml, hown, hts, hlocks⟩ := id hC
  generalize hH : s.heap = H at V ⊢
  clear hH
  have hl : lv_has ls 3 [(0, .ref o), (1, .int i), (2, .int wh)] := hl
  generalize hlo : ([] : List Loc) = locs at V ⊢
  clear hlo
  refine lv_aload_n hx hb dX7_smith_0 rfl (lv_at hl 0 rfl) ?_
  refine g_get hC V (ci := 7) uwX7 0 rfl rfl 0 (by decide) w_249 rfl rfl dX7_smith_1 ?_
  refine lv_iload_n hx hb dX7_smith_4 rfl (lv_at hl 1 rfl) ?_
  refine g_callVU (nA := 1) hC V hl.1 (s_isSmith l D T n0 i nn nm nl no nu n1 n2 n3 n4 n5 n6 n7 n8 n9 n10 (by first | assumption | omega)) w_425 w_426 w_427 w_3 w_428 (by decide +kernel) rfl ⟨(Nat.le_of_ble_eq_true rfl), (Nat.le_of_ble_eq_true rfl)⟩ 1 (ci := 5) rfl rfl [1] rfl rfl (Nat.le_of_ble_eq_true rfl) dX7_smith_5 ⟨(Nat.le_of_ble_eq_true rfl), (Nat.le_of_ble_eq_true rfl)⟩ rfl (fun r w1 H locs hQ V => ?_)
  rcases hQ with ⟨j_1, rfl, rfl, f_2, f_3⟩ | ⟨rfl, rfl, f_4⟩
  · have V : gW D T A s [(o, .inr (7, [.ref n0, .ref s0, .ref im, .ref iz, .ref rw, .ref t0, .ref u0, .ref h0, .ref y0, sv])), (n0, .inr (5, [.int (nI nn), .int nm, .int nl, .int no, .int nu, .ref n1, .ref n2, .ref n3, .ref n4, .ref n5, .ref n6, .ref n7, .ref n8, .ref n9, .ref n10])), (n1, .inl (T 0, 10, .inl nf1)), (n2, .inl (T 0, 10, .inl nf2)), (n3, .inl (T 0, 10, .inl nf3)), (n4, .inl (T 0, 10, .inl nf4)), (n5, .inl (T 0, 10, .inl nf5)), (n6, .inl (T 0, 10, .inl nf6)), (n7, .inl (T 0, 10, .inl nf7)), (n8, .inl (T 0, 10, .inl nf8)), (n9, .inl (T 0, 10, .inl nf9))] H locs := V _ [1] rfl rfl rfl (by decide +kernel) rfl
    show W p l e _ s m args below meth c H locs _ _ _ (F0 m 8 ls [.int (nI 1)])
    rw [f_2] at hl
    refine lv_if_ne (tgt := 14) hx hb dX7_smith_8 (by decide) (fun _ => ?_) (fun c => absurd (show (nI 1) = 0 from c) (by decide +kernel))
    refine lv_iload_n hx hb dX7_smith_14 rfl (lv_at hl 2 rfl) ?_
    by_cases c_50 : wh = (nI 0)
    · skip
      refine lv_tableIn (tgt := 68) (off := 53) hx hb dX7_smith_15 (by first | decide +kernel | (rw [c_50]; decide +kernel)) (by first | decide +kernel | (rw [c_50]; decide +kernel)) (by first | decide +kernel | (rw [c_50]; decide +kernel)) (by decide) ?_
      refine lv_aload_n hx hb dX7_smith_68 rfl (lv_at hl 0 rfl) ?_
      refine g_get hC V (ci := 7) uwX7 0 rfl rfl 0 (by decide) w_249 rfl rfl dX7_smith_69 ?_
      refine g_get hC V (ci := 5) uwX5 1 rfl rfl 5 (by decide) w_54 rfl rfl dX7_smith_72 ?_
      refine lv_iload_n hx hb dX7_smith_75 rfl (lv_at hl 1 rfl) ?_
      refine g_iald hC V 2 rfl (vp_in_nI (by omega) (by omega)) (v := (nf1 j_1)) (congrArg _ (nI_clamp (by omega))) dX7_smith_76 ?_
      exact g_iret (Qr := (q_x_smith T o i wh n0 s0 im iz rw t0 u0 h0 y0 sv nn nm nl no nu n1 n2 n3 n4 n5 n6 n7 n8 n9 n10 nf1 nf2 nf3 nf4 nf5 nf6 nf7 nf8 nf9)) hC V ⟨(Nat.le_of_ble_eq_true rfl), (Nat.le_of_ble_eq_true rfl)⟩ ⟨(nf1 j_1), rfl, rfl⟩ dX7_smith_77
    by_cases c_51 : wh = (nI 1)
    · skip
      refine lv_tableIn (tgt := 78) (off := 63) hx hb dX7_smith_15 (by first | decide +kernel | (rw [c_51]; decide +kernel)) (by first | decide +kernel | (rw [c_51]; decide +kernel)) (by first | decide +kernel | (rw [c_51]; decide +kernel)) (by decide) ?_
      refine lv_aload_n hx hb dX7_smith_78 rfl (lv_at hl 0 rfl) ?_
      refine g_get hC V (ci := 7) uwX7 0 rfl rfl 0 (by decide) w_249 rfl rfl dX7_smith_79 ?_
      refine g_get hC V (ci := 5) uwX5 1 rfl rfl 6 (by decide) w_60 rfl rfl dX7_smith_82 ?_
      refine lv_iload_n hx hb dX7_smith_85 rfl (lv_at hl 1 rfl) ?_
      refine g_iald hC V 3 rfl (vp_in_nI (by omega) (by omega)) (v := (nf2 j_1)) (congrArg _ (nI_clamp (by omega))) dX7_smith_86 ?_
      exact g_iret (Qr := (q_x_smith T o i wh n0 s0 im iz rw t0 u0 h0 y0 sv nn nm nl no nu n1 n2 n3 n4 n5 n6 n7 n8 n9 n10 nf1 nf2 nf3 nf4 nf5 nf6 nf7 nf8 nf9)) hC V ⟨(Nat.le_of_ble_eq_true rfl), (Nat.le_of_ble_eq_true rfl)⟩ ⟨(nf2 j_1), rfl, rfl⟩ dX7_smith_87
    by_cases c_52 : wh = (nI 2)
    · skip
      refine lv_tableIn (tgt := 88) (off := 73) hx hb dX7_smith_15 (by first | decide +kernel | (rw [c_52]; decide +kernel)) (by first | decide +kernel | (rw [c_52]; decide +kernel)) (by first | decide +kernel | (rw [c_52]; decide +kernel)) (by decide) ?_
      refine lv_aload_n hx hb dX7_smith_88 rfl (lv_at hl 0 rfl) ?_
      refine g_get hC V (ci := 7) uwX7 0 rfl rfl 0 (by decide) w_249 rfl rfl dX7_smith_89 ?_
      refine g_get hC V (ci := 5) uwX5 1 rfl rfl 7 (by decide) w_65 rfl rfl dX7_smith_92 ?_
      refine lv_iload_n hx hb dX7_smith_95 rfl (lv_at hl 1 rfl) ?_
      refine g_iald hC V 4 rfl (vp_in_nI (by omega) (by omega)) (v := (nf3 j_1)) (congrArg _ (nI_clamp (by omega))) dX7_smith_96 ?_
      exact g_iret (Qr := (q_x_smith T o i wh n0 s0 im iz rw t0 u0 h0 y0 sv nn nm nl no nu n1 n2 n3 n4 n5 n6 n7 n8 n9 n10 nf1 nf2 nf3 nf4 nf5 nf6 nf7 nf8 nf9)) hC V ⟨(Nat.le_of_ble_eq_true rfl), (Nat.le_of_ble_eq_true rfl)⟩ ⟨(nf3 j_1), rfl, rfl⟩ dX7_smith_97
    by_cases c_53 : wh = (nI 3)
    · skip
      refine lv_tableIn (tgt := 98) (off := 83) hx hb dX7_smith_15 (by first | decide +kernel | (rw [c_53]; decide +kernel)) (by first | decide +kernel | (rw [c_53]; decide +kernel)) (by first | decide +kernel | (rw [c_53]; decide +kernel)) (by decide) ?_
      refine lv_aload_n hx hb dX7_smith_98 rfl (lv_at hl 0 rfl) ?_
      refine g_get hC V (ci := 7) uwX7 0 rfl rfl 0 (by decide) w_249 rfl rfl dX7_smith_99 ?_
      refine g_get hC V (ci := 5) uwX5 1 rfl rfl 8 (by decide) w_69 rfl rfl dX7_smith_102 ?_
      refine lv_iload_n hx hb dX7_smith_105 rfl (lv_at hl 1 rfl) ?_
      refine g_iald hC V 5 rfl (vp_in_nI (by omega) (by omega)) (v := (nf4 j_1)) (congrArg _ (nI_clamp (by omega))) dX7_smith_106 ?_
      exact g_iret (Qr := (q_x_smith T o i wh n0 s0 im iz rw t0 u0 h0 y0 sv nn nm nl no nu n1 n2 n3 n4 n5 n6 n7 n8 n9 n10 nf1 nf2 nf3 nf4 nf5 nf6 nf7 nf8 nf9)) hC V ⟨(Nat.le_of_ble_eq_true rfl), (Nat.le_of_ble_eq_true rfl)⟩ ⟨(nf4 j_1), rfl, rfl⟩ dX7_smith_107
    by_cases c_54 : wh = (nI 4)
    · skip
      refine lv_tableIn (tgt := 108) (off := 93) hx hb dX7_smith_15 (by first | decide +kernel | (rw [c_54]; decide +kernel)) (by first | decide +kernel | (rw [c_54]; decide +kernel)) (by first | decide +kernel | (rw [c_54]; decide +kernel)) (by decide) ?_
      refine lv_aload_n hx hb dX7_smith_108 rfl (lv_at hl 0 rfl) ?_
      refine g_get hC V (ci := 7) uwX7 0 rfl rfl 0 (by decide) w_249 rfl rfl dX7_smith_109 ?_
      refine g_get hC V (ci := 5) uwX5 1 rfl rfl 9 (by decide) w_72 rfl rfl dX7_smith_112 ?_
      refine lv_iload_n hx hb dX7_smith_115 rfl (lv_at hl 1 rfl) ?_
      refine g_iald hC V 6 rfl (vp_in_nI (by omega) (by omega)) (v := (nf5 j_1)) (congrArg _ (nI_clamp (by omega))) dX7_smith_116 ?_
      exact g_iret (Qr := (q_x_smith T o i wh n0 s0 im iz rw t0 u0 h0 y0 sv nn nm nl no nu n1 n2 n3 n4 n5 n6 n7 n8 n9 n10 nf1 nf2 nf3 nf4 nf5 nf6 nf7 nf8 nf9)) hC V ⟨(Nat.le_of_ble_eq_true rfl), (Nat.le_of_ble_eq_true rfl)⟩ ⟨(nf5 j_1), rfl, rfl⟩ dX7_smith_117
    by_cases c_55 : wh = (nI 5)
    · skip
      refine lv_tableIn (tgt := 118) (off := 103) hx hb dX7_smith_15 (by first | decide +kernel | (rw [c_55]; decide +kernel)) (by first | decide +kernel | (rw [c_55]; decide +kernel)) (by first | decide +kernel | (rw [c_55]; decide +kernel)) (by decide) ?_
      refine lv_aload_n hx hb dX7_smith_118 rfl (lv_at hl 0 rfl) ?_
      refine g_get hC V (ci := 7) uwX7 0 rfl rfl 0 (by decide) w_249 rfl rfl dX7_smith_119 ?_
      refine g_get hC V (ci := 5) uwX5 1 rfl rfl 10 (by decide) w_76 rfl rfl dX7_smith_122 ?_
      refine lv_iload_n hx hb dX7_smith_125 rfl (lv_at hl 1 rfl) ?_
      refine g_iald hC V 7 rfl (vp_in_nI (by omega) (by omega)) (v := (nf6 j_1)) (congrArg _ (nI_clamp (by omega))) dX7_smith_126 ?_
      exact g_iret (Qr := (q_x_smith T o i wh n0 s0 im iz rw t0 u0 h0 y0 sv nn nm nl no nu n1 n2 n3 n4 n5 n6 n7 n8 n9 n10 nf1 nf2 nf3 nf4 nf5 nf6 nf7 nf8 nf9)) hC V ⟨(Nat.le_of_ble_eq_true rfl), (Nat.le_of_ble_eq_true rfl)⟩ ⟨(nf6 j_1), rfl, rfl⟩ dX7_smith_127
    by_cases c_56 : wh = (nI 6)
    · skip
      refine lv_tableIn (tgt := 128) (off := 113) hx hb dX7_smith_15 (by first | decide +kernel | (rw [c_56]; decide +kernel)) (by first | decide +kernel | (rw [c_56]; decide +kernel)) (by first | decide +kernel | (rw [c_56]; decide +kernel)) (by decide) ?_
      refine lv_aload_n hx hb dX7_smith_128 rfl (lv_at hl 0 rfl) ?_
      refine g_get hC V (ci := 7) uwX7 0 rfl rfl 0 (by decide) w_249 rfl rfl dX7_smith_129 ?_
      refine g_get hC V (ci := 5) uwX5 1 rfl rfl 11 (by decide) w_79 rfl rfl dX7_smith_132 ?_
      refine lv_iload_n hx hb dX7_smith_135 rfl (lv_at hl 1 rfl) ?_
      refine g_iald hC V 8 rfl (vp_in_nI (by omega) (by omega)) (v := (nf7 j_1)) (congrArg _ (nI_clamp (by omega))) dX7_smith_136 ?_
      exact g_iret (Qr := (q_x_smith T o i wh n0 s0 im iz rw t0 u0 h0 y0 sv nn nm nl no nu n1 n2 n3 n4 n5 n6 n7 n8 n9 n10 nf1 nf2 nf3 nf4 nf5 nf6 nf7 nf8 nf9)) hC V ⟨(Nat.le_of_ble_eq_true rfl), (Nat.le_of_ble_eq_true rfl)⟩ ⟨(nf7 j_1), rfl, rfl⟩ dX7_smith_137
    by_cases c_57 : wh = (nI 7)
    · skip
      refine lv_tableIn (tgt := 138) (off := 123) hx hb dX7_smith_15 (by first | decide +kernel | (rw [c_57]; decide +kernel)) (by first | decide +kernel | (rw [c_57]; decide +kernel)) (by first | decide +kernel | (rw [c_57]; decide +kernel)) (by decide) ?_
      refine lv_aload_n hx hb dX7_smith_138 rfl (lv_at hl 0 rfl) ?_
      refine g_get hC V (ci := 7) uwX7 0 rfl rfl 0 (by decide) w_249 rfl rfl dX7_smith_139 ?_
      refine g_get hC V (ci := 5) uwX5 1 rfl rfl 12 (by decide) w_81 rfl rfl dX7_smith_142 ?_
      refine lv_iload_n hx hb dX7_smith_145 rfl (lv_at hl 1 rfl) ?_
      refine g_iald hC V 9 rfl (vp_in_nI (by omega) (by omega)) (v := (nf8 j_1)) (congrArg _ (nI_clamp (by omega))) dX7_smith_146 ?_
      exact g_iret (Qr := (q_x_smith T o i wh n0 s0 im iz rw t0 u0 h0 y0 sv nn nm nl no nu n1 n2 n3 n4 n5 n6 n7 n8 n9 n10 nf1 nf2 nf3 nf4 nf5 nf6 nf7 nf8 nf9)) hC V ⟨(Nat.le_of_ble_eq_true rfl), (Nat.le_of_ble_eq_true rfl)⟩ ⟨(nf8 j_1), rfl, rfl⟩ dX7_smith_147
    by_cases c_58 : wh = (nI 8)
    · skip
      refine lv_tableIn (tgt := 148) (off := 133) hx hb dX7_smith_15 (by first | decide +kernel | (rw [c_58]; decide +kernel)) (by first | decide +kernel | (rw [c_58]; decide +kernel)) (by first | decide +kernel | (rw [c_58]; decide +kernel)) (by decide) ?_
      refine lv_aload_n hx hb dX7_smith_148 rfl (lv_at hl 0 rfl) ?_
      refine g_get hC V (ci := 7) uwX7 0 rfl rfl 0 (by decide) w_249 rfl rfl dX7_smith_149 ?_
      refine g_get hC V (ci := 5) uwX5 1 rfl rfl 13 (by decide) w_84 rfl rfl dX7_smith_152 ?_
      refine lv_iload_n hx hb dX7_smith_155 rfl (lv_at hl 1 rfl) ?_
      refine g_iald hC V 10 rfl (vp_in_nI (by omega) (by omega)) (v := (nf9 j_1)) (congrArg _ (nI_clamp (by omega))) dX7_smith_156 ?_
      exact g_iret (Qr := (q_x_smith T o i wh n0 s0 im iz rw t0 u0 h0 y0 sv nn nm nl no nu n1 n2 n3 n4 n5 n6 n7 n8 n9 n10 nf1 nf2 nf3 nf4 nf5 nf6 nf7 nf8 nf9)) hC V ⟨(Nat.le_of_ble_eq_true rfl), (Nat.le_of_ble_eq_true rfl)⟩ ⟨(nf9 j_1), rfl, rfl⟩ dX7_smith_157
    by_cases c_59 : wh = (nI 9)
    · skip
      refine lv_tableIn (tgt := 158) (off := 143) hx hb dX7_smith_15 (by first | decide +kernel | (rw [c_59]; decide +kernel)) (by first | decide +kernel | (rw [c_59]; decide +kernel)) (by first | decide +kernel | (rw [c_59]; decide +kernel)) (by decide) ?_
      refine lv_aload_n hx hb dX7_smith_158 rfl (lv_at hl 0 rfl) ?_
      refine g_get hC V (ci := 7) uwX7 0 rfl rfl 0 (by decide) w_249 rfl rfl dX7_smith_159 ?_
      refine lv_iload_n hx hb dX7_smith_162 rfl (lv_at hl 1 rfl) ?_
      refine g_callVU (nA := 1) hC V hl.1 (s_isDone l D T n0 j_1 nn nm nl no nu n1 n2 n3 n4 n5 n6 n7 n8 n9 n10 nf6 nf7 (by first | assumption | omega)) w_429 w_430 w_431 w_3 w_432 (by decide +kernel) rfl ⟨(Nat.le_of_ble_eq_true rfl), (Nat.le_of_ble_eq_true rfl)⟩ 1 (ci := 5) rfl rfl [1, 7, 8] rfl rfl (Nat.le_of_ble_eq_true rfl) dX7_smith_163 ⟨(Nat.le_of_ble_eq_true rfl), (Nat.le_of_ble_eq_true rfl)⟩ rfl (fun r w1 H locs hQ V => ?_)
      rcases hQ with ⟨rfl, rfl, f_6⟩ | ⟨rfl, rfl, f_7⟩
      · have V : gW D T A s [(o, .inr (7, [.ref n0, .ref s0, .ref im, .ref iz, .ref rw, .ref t0, .ref u0, .ref h0, .ref y0, sv])), (n0, .inr (5, [.int (nI nn), .int nm, .int nl, .int no, .int nu, .ref n1, .ref n2, .ref n3, .ref n4, .ref n5, .ref n6, .ref n7, .ref n8, .ref n9, .ref n10])), (n1, .inl (T 0, 10, .inl nf1)), (n2, .inl (T 0, 10, .inl nf2)), (n3, .inl (T 0, 10, .inl nf3)), (n4, .inl (T 0, 10, .inl nf4)), (n5, .inl (T 0, 10, .inl nf5)), (n6, .inl (T 0, 10, .inl nf6)), (n7, .inl (T 0, 10, .inl nf7)), (n8, .inl (T 0, 10, .inl nf8)), (n9, .inl (T 0, 10, .inl nf9))] H locs := V _ [1, 5, 0] rfl rfl rfl (by decide +kernel) rfl
        show W p l e _ s m args below meth c H locs _ _ _ (F0 m 166 ls [.int (nI 1)])
        refine lv_if_eq (tgt := 173) hx hb dX7_smith_166 (by decide) (fun c => absurd (show (nI 1) = 0 from c) (by decide +kernel)) (fun _ => ?_)
        refine lv_iconst (v := (nI 1)) hx hb dX7_smith_169 (by decide +kernel) ?_
        refine lv_goto (tgt := 174) hx hb dX7_smith_170 (by decide) ?_
        exact g_iret (Qr := (q_x_smith T o i wh n0 s0 im iz rw t0 u0 h0 y0 sv nn nm nl no nu n1 n2 n3 n4 n5 n6 n7 n8 n9 n10 nf1 nf2 nf3 nf4 nf5 nf6 nf7 nf8 nf9)) hC V ⟨(Nat.le_of_ble_eq_true rfl), (Nat.le_of_ble_eq_true rfl)⟩ ⟨(nI 1), rfl, rfl⟩ dX7_smith_174
      · have V : gW D T A s [(o, .inr (7, [.ref n0, .ref s0, .ref im, .ref iz, .ref rw, .ref t0, .ref u0, .ref h0, .ref y0, sv])), (n0, .inr (5, [.int (nI nn), .int nm, .int nl, .int no, .int nu, .ref n1, .ref n2, .ref n3, .ref n4, .ref n5, .ref n6, .ref n7, .ref n8, .ref n9, .ref n10])), (n1, .inl (T 0, 10, .inl nf1)), (n2, .inl (T 0, 10, .inl nf2)), (n3, .inl (T 0, 10, .inl nf3)), (n4, .inl (T 0, 10, .inl nf4)), (n5, .inl (T 0, 10, .inl nf5)), (n6, .inl (T 0, 10, .inl nf6)), (n7, .inl (T 0, 10, .inl nf7)), (n8, .inl (T 0, 10, .inl nf8)), (n9, .inl (T 0, 10, .inl nf9))] H locs := V _ [1, 5, 0] rfl rfl rfl (by decide +kernel) rfl
        show W p l e _ s m args below meth c H locs _ _ _ (F0 m 166 ls [.int (nI 0)])
        refine lv_if_eq (tgt := 173) hx hb dX7_smith_166 (by decide) (fun _ => ?_) (fun c => absurd (show (nI 0) = 0 by decide +kernel) c)
        refine lv_iconst (v := (nI 0)) hx hb dX7_smith_173 (by decide +kernel) ?_
        exact g_iret (Qr := (q_x_smith T o i wh n0 s0 im iz rw t0 u0 h0 y0 sv nn nm nl no nu n1 n2 n3 n4 n5 n6 n7 n8 n9 n10 nf1 nf2 nf3 nf4 nf5 nf6 nf7 nf8 nf9)) hC V ⟨(Nat.le_of_ble_eq_true rfl), (Nat.le_of_ble_eq_true rfl)⟩ ⟨(nI 0), rfl, rfl⟩ dX7_smith_174
    refine lv_tableOut (tgt := 175) hx hb dX7_smith_15 (g_out 0 9 (fun k h1 h2 => ?_)) (by decide) ?_
    · intro h
      have h3 : k = 0 ∨ k = 1 ∨ k = 2 ∨ k = 3 ∨ k = 4 ∨ k = 5 ∨ k = 6 ∨ k = 7 ∨ k = 8 ∨ k = 9 := by omega
      rcases h3 with rfl | rfl | rfl | rfl | rfl | rfl | rfl | rfl | rfl | rfl
      · exact c_50 (g_out2 h (by decide +kernel))
      · exact c_51 (g_out2 h (by decide +kernel))
      · exact c_52 (g_out2 h (by decide +kernel))
      · exact c_53 (g_out2 h (by decide +kernel))
      · exact c_54 (g_out2 h (by decide +kernel))
      · exact c_55 (g_out2 h (by decide +kernel))
      · exact c_56 (g_out2 h (by decide +kernel))
      · exact c_57 (g_out2 h (by decide +kernel))
      · exact c_58 (g_out2 h (by decide +kernel))
      · exact c_59 (g_out2 h (by decide +kernel))
    refine lv_bipush (v := (-2)) hx hb dX7_smith_175 (by decide +kernel) ?_
    exact g_iret (Qr := (q_x_smith T o i wh n0 s0 im iz rw t0 u0 h0 y0 sv nn nm nl no nu n1 n2 n3 n4 n5 n6 n7 n8 n9 n10 nf1 nf2 nf3 nf4 nf5 nf6 nf7 nf8 nf9)) hC V ⟨(Nat.le_of_ble_eq_true rfl), (Nat.le_of_ble_eq_true rfl)⟩ ⟨(-2), rfl, rfl⟩ dX7_smith_177
  · have V : gW D T A s [(o, .inr (7, [.ref n0, .ref s0, .ref im, .ref iz, .ref rw, .ref t0, .ref u0, .ref h0, .ref y0, sv])), (n0, .inr (5, [.int (nI nn), .int nm, .int nl, .int no, .int nu, .ref n1, .ref n2, .ref n3, .ref n4, .ref n5, .ref n6, .ref n7, .ref n8, .ref n9, .ref n10])), (n1, .inl (T 0, 10, .inl nf1)), (n2, .inl (T 0, 10, .inl nf2)), (n3, .inl (T 0, 10, .inl nf3)), (n4, .inl (T 0, 10, .inl nf4)), (n5, .inl (T 0, 10, .inl nf5)), (n6, .inl (T 0, 10, .inl nf6)), (n7, .inl (T 0, 10, .inl nf7)), (n8, .inl (T 0, 10, .inl nf8)), (n9, .inl (T 0, 10, .inl nf9))] H locs := V _ [1] rfl rfl rfl (by decide +kernel) rfl
    show W p l e _ s m args below meth c H locs _ _ _ (F0 m 8 ls [.int (nI 0)])
    refine lv_if_ne (tgt := 14) hx hb dX7_smith_8 (by decide) (fun c => absurd (show (nI 0) = 0 by decide +kernel) c) (fun _ => ?_)
    refine lv_bipush (v := (-2)) hx hb dX7_smith_11 (by decide +kernel) ?_
    exact g_iret (Qr := (q_x_smith T o i wh n0 s0 im iz rw t0 u0 h0 y0 sv nn nm nl no nu n1 n2 n3 n4 n5 n6 n7 n8 n9 n10 nf1 nf2 nf3 nf4 nf5 nf6 nf7 nf8 nf9)) hC V ⟨(Nat.le_of_ble_eq_true rfl), (Nat.le_of_ble_eq_true rfl)⟩ ⟨(-2), rfl, rfl⟩ dX7_smith_13

def q_x_refusedMinutes (T : Nat → ClassId) (o : Nat) (v : Int32) (M : Nat) (n0 : Nat) (s0 : Nat) (im : Nat) (iz : Nat) (rw : Nat) (t0 : Nat) (u0 : Nat) (h0 : Nat) (y0 : Nat) (sv : Value) (nn : Nat) (nm : Int32) (nl : Int32) (no : Int32) (nu : Int32) (n1 : Nat) (n2 : Nat) (n3 : Nat) (n4 : Nat) (n5 : Nat) (n6 : Nat) (n7 : Nat) (n8 : Nat) (n9 : Nat) (n10 : Nat) : Option Value → va_W → Prop := fun rr ww => (∃ (j : Nat), rr = some (.int (nI 0)) ∧ ww = [(o, .inr (7, [.ref n0, .ref s0, .ref im, .ref iz, .ref rw, .ref t0, .ref u0, .ref h0, .ref y0, sv])), (n0, .inr (5, [.int (nI nn), .int nm, .int nl, .int no, .int nu, .ref n1, .ref n2, .ref n3, .ref n4, .ref n5, .ref n6, .ref n7, .ref n8, .ref n9, .ref n10]))] ∧ 1 ≤ j ∧ j ≤ M ∧ v = nI j) ∨ (∃ (z : Int32), rr = some (.int z) ∧ ww = [(o, .inr (7, [.ref n0, .ref s0, .ref im, .ref iz, .ref rw, .ref t0, .ref u0, .ref h0, .ref y0, sv])), (n0, .inr (5, [.int (nI nn), .int nm, .int nl, .int no, .int nu, .ref n1, .ref n2, .ref n3, .ref n4, .ref n5, .ref n6, .ref n7, .ref n8, .ref n9, .ref n10]))] ∧ ¬ z = 0)
set_option maxHeartbeats 4000000 in
set_option maxRecDepth 100000 in
theorem x_refusedMinutes (l : Launch) (D : va_G) (T : Nat → ClassId) (o : Nat) (v : Int32) (M : Nat) (n0 : Nat) (s0 : Nat) (im : Nat) (iz : Nat) (rw : Nat) (t0 : Nat) (u0 : Nat) (h0 : Nat) (y0 : Nat) (sv : Value) (nn : Nat) (nm : Int32) (nl : Int32) (no : Int32) (nu : Int32) (n1 : Nat) (n2 : Nat) (n3 : Nat) (n4 : Nat) (n5 : Nat) (n6 : Nat) (n7 : Nat) (n8 : Nat) (n9 : Nat) (n10 : Nat) (h_c : M ≤ 200) : Ct l yX7_refusedMinutes cX7_refusedMinutes 3 (some .int) 1 0 0 D T [.ref o, .int v, .int (nI M)] [(o, .inr (7, [.ref n0, .ref s0, .ref im, .ref iz, .ref rw, .ref t0, .ref u0, .ref h0, .ref y0, sv])), (n0, .inr (5, [.int (nI nn), .int nm, .int nl, .int no, .int nu, .ref n1, .ref n2, .ref n3, .ref n4, .ref n5, .ref n6, .ref n7, .ref n8, .ref n9, .ref n10]))] (q_x_refusedMinutes T o v M n0 s0 im iz rw t0 u0 h0 y0 sv nn nm nl no nu n1 n2 n3 n4 n5 n6 n7 n8 n9 n10) := by
  refine Ct.of (cc := cX7_refusedMinutes) (maxL := 3) (ret := (some .int)) (by decide) (Nat.le_of_ble_eq_true rfl) ?_
  intro p e s m args below meth c A ls hC hnm V hl
  obtain ⟨hx, hb, hr, hml, hown, hts, hlocks⟩ := id hC
  generalize hH : s.heap = H at V ⊢
  clear hH
  have hl : lv_has ls 3 [(0, .ref o), (1, .int v), (2, .int (nI M))] := hl
  generalize hlo : ([] : List Loc) = locs at V ⊢
  clear hlo
  refine lv_iload_n hx hb dX7_refusedMinutes_0 rfl (lv_at hl 1 rfl) ?_
  refine lv_iconst (v := (nI 1)) hx hb dX7_refusedMinutes_1 (by decide +kernel) ?_
  refine lv_iload_n hx hb dX7_refusedMinutes_2 rfl (lv_at hl 2 rfl) ?_
  refine g_callSU (nA := 3) hC V hl.1 (c_isWithin l D T v (nI 1) (nI M)) w_292 w_293 w_2 w_294 (by decide +kernel) rfl ⟨(Nat.le_of_ble_eq_true rfl), (Nat.le_of_ble_eq_true rfl)⟩ [] rfl rfl (Nat.le_of_ble_eq_true rfl) dX7_refusedMinutes_3 ⟨(Nat.le_of_ble_eq_true rfl), (Nat.le_of_ble_eq_true rfl)⟩ rfl (fun r w1 H locs hQ V => ?_)
  rcases hQ with ⟨rfl, rfl, f_1, f_2⟩ | ⟨rfl, rfl, f_3⟩
  · have V : gW D T A s [(o, .inr (7, [.ref n0, .ref s0, .ref im, .ref iz, .ref rw, .ref t0, .ref u0, .ref h0, .ref y0, sv])), (n0, .inr (5, [.int (nI nn), .int nm, .int nl, .int no, .int nu, .ref n1, .ref n2, .ref n3, .ref n4, .ref n5, .ref n6, .ref n7, .ref n8, .ref n9, .ref n10]))] H locs := V _ [] rfl rfl rfl (by decide +kernel) rfl
    show W p l e _ s m args below meth c H locs _ _ _ (F0 m 6 ls [.int (nI 1)])
    obtain ⟨i, hi1, hi2, ei⟩ := g_rng (by first | decide | omega) (by first | decide | omega) f_1 f_2
    rw [ei] at hl
    refine lv_if_ne (tgt := 12) hx hb dX7_refusedMinutes_6 (by decide) (fun _ => ?_) (fun c => absurd (show (nI 1) = 0 from c) (by decide +kernel))
    refine lv_aload_n hx hb dX7_refusedMinutes_12 rfl (lv_at hl 0 rfl) ?_
    refine g_get hC V (ci := 7) uwX7 0 rfl rfl 0 (by decide) w_249 rfl rfl dX7_refusedMinutes_13 ?_
    refine g_get hC V (ci := 5) uwX5 1 rfl rfl 1 (by decide) w_41 rfl rfl dX7_refusedMinutes_16 ?_
    refine lv_iload_n hx hb dX7_refusedMinutes_19 rfl (lv_at hl 1 rfl) ?_
    refine lv_iadd hx hb dX7_refusedMinutes_20 ?_
    refine lv_sipush (v := (nI 9999)) hx hb dX7_refusedMinutes_21 (by decide +kernel) ?_
    refine lv_icmp_le (tgt := 32) hx hb dX7_refusedMinutes_24 (by decide) (fun c_4 => ?_) (fun c_4 => ?_)
    · skip
      refine lv_iconst (v := (nI 0)) hx hb dX7_refusedMinutes_32 (by decide +kernel) ?_
      exact g_iret (Qr := (q_x_refusedMinutes T o v M n0 s0 im iz rw t0 u0 h0 y0 sv nn nm nl no nu n1 n2 n3 n4 n5 n6 n7 n8 n9 n10)) hC V ⟨(Nat.le_of_ble_eq_true rfl), (Nat.le_of_ble_eq_true rfl)⟩ (.inl ⟨i, rfl, rfl, (by assumption), (by assumption), (by assumption)⟩) dX7_refusedMinutes_33
    · skip
      refine lv_bipush (v := (-5)) hx hb dX7_refusedMinutes_27 (by decide +kernel) ?_
      refine lv_goto (tgt := 33) hx hb dX7_refusedMinutes_29 (by decide) ?_
      exact g_iret (Qr := (q_x_refusedMinutes T o v M n0 s0 im iz rw t0 u0 h0 y0 sv nn nm nl no nu n1 n2 n3 n4 n5 n6 n7 n8 n9 n10)) hC V ⟨(Nat.le_of_ble_eq_true rfl), (Nat.le_of_ble_eq_true rfl)⟩ (.inr ⟨(-5), rfl, rfl, (by decide +kernel)⟩) dX7_refusedMinutes_33
  · have V : gW D T A s [(o, .inr (7, [.ref n0, .ref s0, .ref im, .ref iz, .ref rw, .ref t0, .ref u0, .ref h0, .ref y0, sv])), (n0, .inr (5, [.int (nI nn), .int nm, .int nl, .int no, .int nu, .ref n1, .ref n2, .ref n3, .ref n4, .ref n5, .ref n6, .ref n7, .ref n8, .ref n9, .ref n10]))] H locs := V _ [] rfl rfl rfl (by decide +kernel) rfl
    show W p l e _ s m args below meth c H locs _ _ _ (F0 m 6 ls [.int (nI 0)])
    refine lv_if_ne (tgt := 12) hx hb dX7_refusedMinutes_6 (by decide) (fun c => absurd (show (nI 0) = 0 by decide +kernel) c) (fun _ => ?_)
    refine lv_bipush (v := (-3)) hx hb dX7_refusedMinutes_9 (by decide +kernel) ?_
    exact g_iret (Qr := (q_x_refusedMinutes T o v M n0 s0 im iz rw t0 u0 h0 y0 sv nn nm nl no nu n1 n2 n3 n4 n5 n6 n7 n8 n9 n10)) hC V ⟨(Nat.le_of_ble_eq_true rfl), (Nat.le_of_ble_eq_true rfl)⟩ (.inr ⟨(-3), rfl, rfl, (by decide +kernel)⟩) dX7_refusedMinutes_11

def q_x_doneByCustom (T : Nat → ClassId) (o : Nat) (cn : Nat) (idl : Int32) (sf : Int32) (sb : Int32) (n0 : Nat) (s0 : Nat) (im : Nat) (iz : Nat) (rw : Nat) (t0 : Nat) (u0 : Nat) (h0 : Nat) (y0 : Nat) (sv : Value) (nn : Nat) (nm : Int32) (nl : Int32) (no : Int32) (nu : Int32) (n1 : Nat) (n2 : Nat) (n3 : Nat) (n4 : Nat) (n5 : Nat) (n6 : Nat) (n7 : Nat) (n8 : Nat) (n9 : Nat) (n10 : Nat) (nf1 : Nat → Int32) (nf2 : Nat → Int32) (nf3 : Nat → Int32) (nf4 : Nat → Int32) (nf5 : Nat → Int32) (nf6 : Nat → Int32) (nf7 : Nat → Int32) (nf8 : Nat → Int32) (nf9 : Nat → Int32) (sn : Int32) (sm : Int32) (sl : Int32) (so : Int32) (su : Int32) (s1 : Nat) (s2 : Nat) (s3 : Nat) (s4 : Nat) (s5 : Nat) (s6 : Nat) (s7 : Nat) (s8 : Nat) (s9 : Nat) (s10 : Nat) (sf1 : Nat → Int32) (sf2 : Nat → Int32) (sf3 : Nat → Int32) (sf4 : Nat → Int32) (sf5 : Nat → Int32) (sf6 : Nat → Int32) (sf7 : Nat → Int32) (sf8 : Nat → Int32) (sf9 : Nat → Int32) (sf10 : Nat → Int32) : Option Value → va_W → Prop := fun rr ww => (∃ (z : Int32) (xm : Int32) (xl : Int32) (xo : Int32) (xu : Int32) (q1 : Nat → Int32) (q2 : Nat → Int32) (q3 : Nat → Int32) (q4 : Nat → Int32) (q5 : Nat → Int32) (q6 : Nat → Int32) (q7 : Nat → Int32) (q8 : Nat → Int32) (q9 : Nat → Int32) (q10 : Nat → Int32), rr = some (.int z) ∧ ww = [(o, .inr (7, [.ref n0, .ref s0, .ref im, .ref iz, .ref rw, .ref t0, .ref u0, .ref h0, .ref y0, sv])), (n0, .inr (5, [.int (nI nn), .int nm, .int nl, .int no, .int nu, .ref n1, .ref n2, .ref n3, .ref n4, .ref n5, .ref n6, .ref n7, .ref n8, .ref n9, .ref n10])), (n1, .inl (T 0, 10, .inl nf1)), (n2, .inl (T 0, 10, .inl nf2)), (n3, .inl (T 0, 10, .inl nf3)), (n4, .inl (T 0, 10, .inl nf4)), (n5, .inl (T 0, 10, .inl nf5)), (n6, .inl (T 0, 10, .inl nf6)), (n7, .inl (T 0, 10, .inl nf7)), (n8, .inl (T 0, 10, .inl nf8)), (n9, .inl (T 0, 10, .inl nf9)), (s0, .inr (5, [.int (nI nn), .int xm, .int xl, .int xo, .int xu, .ref s1, .ref s2, .ref s3, .ref s4, .ref s5, .ref s6, .ref s7, .ref s8, .ref s9, .ref s10])), (s1, .inl (T 0, 10, .inl q1)), (s2, .inl (T 0, 10, .inl q2)), (s3, .inl (T 0, 10, .inl q3)), (s4, .inl (T 0, 10, .inl q4)), (s5, .inl (T 0, 10, .inl q5)), (s6, .inl (T 0, 10, .inl q6)), (s7, .inl (T 0, 10, .inl q7)), (s8, .inl (T 0, 10, .inl q8)), (s9, .inl (T 0, 10, .inl q9)), (s10, .inl (T 0, 10, .inl q10))])
set_option maxHeartbeats 4000000 in
set_option maxRecDepth 100000 in
theorem x_doneByCustom (l : Launch) (D : va_G) (T : Nat → ClassId) (o : Nat) (cn : Nat) (idl : Int32) (sf : Int32) (sb : Int32) (n0 : Nat) (s0 : Nat) (im : Nat) (iz : Nat) (rw : Nat) (t0 : Nat) (u0 : Nat) (h0 : Nat) (y0 : Nat) (sv : Value) (nn : Nat) (nm : Int32) (nl : Int32) (no : Int32) (nu : Int32) (n1 : Nat) (n2 : Nat) (n3 : Nat) (n4 : Nat) (n5 : Nat) (n6 : Nat) (n7 : Nat) (n8 : Nat) (n9 : Nat) (n10 : Nat) (nf1 : Nat → Int32) (nf2 : Nat → Int32) (nf3 : Nat → Int32) (nf4 : Nat → Int32) (nf5 : Nat → Int32) (nf6 : Nat → Int32) (nf7 : Nat → Int32) (nf8 : Nat → Int32) (nf9 : Nat → Int32) (sn : Int32) (sm : Int32) (sl : Int32) (so : Int32) (su : Int32) (s1 : Nat) (s2 : Nat) (s3 : Nat) (s4 : Nat) (s5 : Nat) (s6 : Nat) (s7 : Nat) (s8 : Nat) (s9 : Nat) (s10 : Nat) (sf1 : Nat → Int32) (sf2 : Nat → Int32) (sf3 : Nat → Int32) (sf4 : Nat → Int32) (sf5 : Nat → Int32) (sf6 : Nat → Int32) (sf7 : Nat → Int32) (sf8 : Nat → Int32) (sf9 : Nat → Int32) (sf10 : Nat → Int32) (h_n : nn ≤ 10) (h_t : ∀ i, i < nn → bd (nf9 i) nn) (h_c : cn ≤ 1000) : Ct l yX7_doneByCustom cX7_doneByCustom 5 (some .int) 5 0 0 D T [.ref o, .int (nI cn), .int idl, .int sf, .int sb] [(o, .inr (7, [.ref n0, .ref s0, .ref im, .ref iz, .ref rw, .ref t0, .ref u0, .ref h0, .ref y0, sv])), (n0, .inr (5, [.int (nI nn), .int nm, .int nl, .int no, .int nu, .ref n1, .ref n2, .ref n3, .ref n4, .ref n5, .ref n6, .ref n7, .ref n8, .ref n9, .ref n10])), (n1, .inl (T 0, 10, .inl nf1)), (n2, .inl (T 0, 10, .inl nf2)), (n3, .inl (T 0, 10, .inl nf3)), (n4, .inl (T 0, 10, .inl nf4)), (n5, .inl (T 0, 10, .inl nf5)), (n6, .inl (T 0, 10, .inl nf6)), (n7, .inl (T 0, 10, .inl nf7)), (n8, .inl (T 0, 10, .inl nf8)), (n9, .inl (T 0, 10, .inl nf9)), (s0, .inr (5, [.int sn, .int sm, .int sl, .int so, .int su, .ref s1, .ref s2, .ref s3, .ref s4, .ref s5, .ref s6, .ref s7, .ref s8, .ref s9, .ref s10])), (s1, .inl (T 0, 10, .inl sf1)), (s2, .inl (T 0, 10, .inl sf2)), (s3, .inl (T 0, 10, .inl sf3)), (s4, .inl (T 0, 10, .inl sf4)), (s5, .inl (T 0, 10, .inl sf5)), (s6, .inl (T 0, 10, .inl sf6)), (s7, .inl (T 0, 10, .inl sf7)), (s8, .inl (T 0, 10, .inl sf8)), (s9, .inl (T 0, 10, .inl sf9)), (s10, .inl (T 0, 10, .inl sf10))] (q_x_doneByCustom T o cn idl sf sb n0 s0 im iz rw t0 u0 h0 y0 sv nn nm nl no nu n1 n2 n3 n4 n5 n6 n7 n8 n9 n10 nf1 nf2 nf3 nf4 nf5 nf6 nf7 nf8 nf9 sn sm sl so su s1 s2 s3 s4 s5 s6 s7 s8 s9 s10 sf1 sf2 sf3 sf4 sf5 sf6 sf7 sf8 sf9 sf10) := by
  refine Ct.of (cc := cX7_doneByCustom) (maxL := 5) (ret := (some .int)) (by decide) (Nat.le_of_ble_eq_true rfl) ?_
  intro p e s m args below meth c A ls hC hnm V hl
  obtain ⟨hx, hb, hr, hml, hown, hts, hlocks⟩ := id hC
  generalize hH : s.heap = H at V ⊢
  clear hH
  have hl : lv_has ls 5 [(0, .ref o), (1, .int (nI cn)), (2, .int idl), (3, .int sf), (4, .int sb)] := hl
  generalize hlo : ([] : List Loc) = locs at V ⊢
  clear hlo
  refine lv_aload_n hx hb dX7_doneByCustom_0 rfl (lv_at hl 0 rfl) ?_
  refine g_get hC V (ci := 7) uwX7 0 rfl rfl 1 (by decide) w_250 rfl rfl dX7_doneByCustom_1 ?_
  refine lv_aload_n hx hb dX7_doneByCustom_4 rfl (lv_at hl 0 rfl) ?_
  refine g_get hC V (ci := 7) uwX7 0 rfl rfl 0 (by decide) w_249 rfl rfl dX7_doneByCustom_5 ?_
  refine g_callVU (nA := 1) hC V hl.1 (s_takeFrom l D T s0 n0 sn sm sl so su s1 s2 s3 s4 s5 s6 s7 s8 s9 s10 sf1 sf2 sf3 sf4 sf5 sf6 sf7 sf8 sf9 nn nm nl no nu n1 n2 n3 n4 n5 n6 n7 n8 n9 n10 nf1 nf2 nf3 nf4 nf5 nf6 nf7 nf8 nf9 (by first | assumption | omega)) w_413 w_414 w_415 w_3 w_416 (by decide +kernel) rfl ⟨(Nat.le_of_ble_eq_true rfl), (Nat.le_of_ble_eq_true rfl)⟩ 11 (ci := 5) rfl rfl [11, 12, 13, 14, 15, 16, 17, 18, 19, 20, 1, 2, 3, 4, 5, 6, 7, 8, 9, 10] rfl rfl (Nat.le_of_ble_eq_true rfl) dX7_doneByCustom_8 ⟨(Nat.le_of_ble_eq_true rfl), (Nat.le_of_ble_eq_true rfl)⟩ rfl (fun r w1 H locs hQ V => ?_)
  obtain ⟨p1, p2, p3, p4, p5, p6, p7, p8, p9, rfl, rfl, f_1, f_2, f_3, f_4, f_5, f_6, f_7, f_8, f_9⟩ := hQ
  have V : gW D T A s [(o, .inr (7, [.ref n0, .ref s0, .ref im, .ref iz, .ref rw, .ref t0, .ref u0, .ref h0, .ref y0, sv])), (n0, .inr (5, [.int (nI nn), .int nm, .int nl, .int no, .int nu, .ref n1, .ref n2, .ref n3, .ref n4, .ref n5, .ref n6, .ref n7, .ref n8, .ref n9, .ref n10])), (n1, .inl (T 0, 10, .inl nf1)), (n2, .inl (T 0, 10, .inl nf2)), (n3, .inl (T 0, 10, .inl nf3)), (n4, .inl (T 0, 10, .inl nf4)), (n5, .inl (T 0, 10, .inl nf5)), (n6, .inl (T 0, 10, .inl nf6)), (n7, .inl (T 0, 10, .inl nf7)), (n8, .inl (T 0, 10, .inl nf8)), (n9, .inl (T 0, 10, .inl nf9)), (s0, .inr (5, [.int (nI nn), .int nm, .int nl, .int no, .int nu, .ref s1, .ref s2, .ref s3, .ref s4, .ref s5, .ref s6, .ref s7, .ref s8, .ref s9, .ref s10])), (s1, .inl (T 0, 10, .inl p1)), (s2, .inl (T 0, 10, .inl p2)), (s3, .inl (T 0, 10, .inl p3)), (s4, .inl (T 0, 10, .inl p4)), (s5, .inl (T 0, 10, .inl p5)), (s6, .inl (T 0, 10, .inl p6)), (s7, .inl (T 0, 10, .inl p7)), (s8, .inl (T 0, 10, .inl p8)), (s9, .inl (T 0, 10, .inl p9)), (s10, .inl (T 0, 10, .inl sf10))] H locs := V _ [1, 0, 0, 0, 0, 0, 0, 0, 0, 0, 0, 0, 0, 0, 0, 0, 0, 0, 0, 0] rfl rfl rfl (by decide +kernel) rfl
  show W p l e _ s m args below meth c H locs _ _ _ (F0 m 11 ls [])
  have hp9 : ∀ i, i < nn → bd (p9 i) nn := fun i h => by rw [f_9 i h]; exact h_t i h
  refine lv_aload_n hx hb dX7_doneByCustom_11 rfl (lv_at hl 0 rfl) ?_
  refine g_get hC V (ci := 7) uwX7 0 rfl rfl 1 (by decide) w_250 rfl rfl dX7_doneByCustom_12 ?_
  refine lv_iload_n hx hb dX7_doneByCustom_15 rfl (lv_at hl 1 rfl) ?_
  refine lv_iload_n hx hb dX7_doneByCustom_16 rfl (lv_at hl 2 rfl) ?_
  refine lv_iload_n hx hb dX7_doneByCustom_17 rfl (lv_at hl 3 rfl) ?_
  refine lv_iload hx hb dX7_doneByCustom_18 (lv_at hl 4 rfl) ?_
  refine g_callVU (nA := 4) hC V hl.1 (s_passAll l D T s0 cn idl sf sb nn nm nl no nu s1 s2 s3 s4 s5 s6 s7 s8 s9 s10 p1 p2 p3 p4 p5 p6 p7 p8 p9 sf10 (by first | assumption | omega) hp9 (by first | assumption | omega)) w_540 w_541 w_542 w_3 w_543 (by decide +kernel) rfl ⟨(Nat.le_of_ble_eq_true rfl), (Nat.le_of_ble_eq_true rfl)⟩ 11 (ci := 5) rfl rfl [11, 12, 13, 14, 15, 16, 17, 18, 19, 20, 21] rfl rfl (Nat.le_of_ble_eq_true rfl) dX7_doneByCustom_20 ⟨(Nat.le_of_ble_eq_true rfl), (Nat.le_of_ble_eq_true rfl)⟩ rfl (fun r w1 H locs hQ V => ?_)
  obtain ⟨z_10, u_11, mm_12, g3_13, g7_14, g8_15, g10_16, rfl, rfl⟩ := hQ
  have V : gW D T A s [(o, .inr (7, [.ref n0, .ref s0, .ref im, .ref iz, .ref rw, .ref t0, .ref u0, .ref h0, .ref y0, sv])), (n0, .inr (5, [.int (nI nn), .int nm, .int nl, .int no, .int nu, .ref n1, .ref n2, .ref n3, .ref n4, .ref n5, .ref n6, .ref n7, .ref n8, .ref n9, .ref n10])), (n1, .inl (T 0, 10, .inl nf1)), (n2, .inl (T 0, 10, .inl nf2)), (n3, .inl (T 0, 10, .inl nf3)), (n4, .inl (T 0, 10, .inl nf4)), (n5, .inl (T 0, 10, .inl nf5)), (n6, .inl (T 0, 10, .inl nf6)), (n7, .inl (T 0, 10, .inl nf7)), (n8, .inl (T 0, 10, .inl nf8)), (n9, .inl (T 0, 10, .inl nf9)), (s0, .inr (5, [.int (nI nn), .int mm_12, .int nl, .int no, .int u_11, .ref s1, .ref s2, .ref s3, .ref s4, .ref s5, .ref s6, .ref s7, .ref s8, .ref s9, .ref s10])), (s1, .inl (T 0, 10, .inl p1)), (s2, .inl (T 0, 10, .inl p2)), (s3, .inl (T 0, 10, .inl g3_13)), (s4, .inl (T 0, 10, .inl p4)), (s5, .inl (T 0, 10, .inl p5)), (s6, .inl (T 0, 10, .inl p6)), (s7, .inl (T 0, 10, .inl g7_14)), (s8, .inl (T 0, 10, .inl g8_15)), (s9, .inl (T 0, 10, .inl p9)), (s10, .inl (T 0, 10, .inl g10_16))] H locs := V _ [11, 0, 0, 0, 0, 0, 0, 0, 0, 0, 0] rfl rfl rfl (by decide +kernel) rfl
  show W p l e _ s m args below meth c H locs _ _ _ (F0 m 23 ls [.int z_10])
  refine lv_pop hx hb dX7_doneByCustom_23 rfl ?_
  refine lv_aload_n hx hb dX7_doneByCustom_24 rfl (lv_at hl 0 rfl) ?_
  refine g_get hC V (ci := 7) uwX7 0 rfl rfl 1 (by decide) w_250 rfl rfl dX7_doneByCustom_25 ?_
  refine g_callVU (nA := 0) hC V hl.1 (s_piecesDone l D T s0 nn mm_12 nl no u_11 s1 s2 s3 s4 s5 s6 s7 s8 s9 s10 p6 g7_14 (by first | assumption | omega)) w_516 w_517 w_518 w_3 w_519 (by decide +kernel) rfl ⟨(Nat.le_of_ble_eq_true rfl), (Nat.le_of_ble_eq_true rfl)⟩ 11 (ci := 5) rfl rfl [11, 17, 18] rfl rfl (Nat.le_of_ble_eq_true rfl) dX7_doneByCustom_28 ⟨(Nat.le_of_ble_eq_true rfl), (Nat.le_of_ble_eq_true rfl)⟩ rfl (fun r w1 H locs hQ V => ?_)
  obtain ⟨z_17, rfl, rfl⟩ := hQ
  have V : gW D T A s [(o, .inr (7, [.ref n0, .ref s0, .ref im, .ref iz, .ref rw, .ref t0, .ref u0, .ref h0, .ref y0, sv])), (n0, .inr (5, [.int (nI nn), .int nm, .int nl, .int no, .int nu, .ref n1, .ref n2, .ref n3, .ref n4, .ref n5, .ref n6, .ref n7, .ref n8, .ref n9, .ref n10])), (n1, .inl (T 0, 10, .inl nf1)), (n2, .inl (T 0, 10, .inl nf2)), (n3, .inl (T 0, 10, .inl nf3)), (n4, .inl (T 0, 10, .inl nf4)), (n5, .inl (T 0, 10, .inl nf5)), (n6, .inl (T 0, 10, .inl nf6)), (n7, .inl (T 0, 10, .inl nf7)), (n8, .inl (T 0, 10, .inl nf8)), (n9, .inl (T 0, 10, .inl nf9)), (s0, .inr (5, [.int (nI nn), .int mm_12, .int nl, .int no, .int u_11, .ref s1, .ref s2, .ref s3, .ref s4, .ref s5, .ref s6, .ref s7, .ref s8, .ref s9, .ref s10])), (s1, .inl (T 0, 10, .inl p1)), (s2, .inl (T 0, 10, .inl p2)), (s3, .inl (T 0, 10, .inl g3_13)), (s4, .inl (T 0, 10, .inl p4)), (s5, .inl (T 0, 10, .inl p5)), (s6, .inl (T 0, 10, .inl p6)), (s7, .inl (T 0, 10, .inl g7_14)), (s8, .inl (T 0, 10, .inl g8_15)), (s9, .inl (T 0, 10, .inl p9)), (s10, .inl (T 0, 10, .inl g10_16))] H locs := V _ [11, 5, 0] rfl rfl rfl (by decide +kernel) rfl
  show W p l e _ s m args below meth c H locs _ _ _ (F0 m 31 ls [.int z_17])
  exact g_iret (Qr := (q_x_doneByCustom T o cn idl sf sb n0 s0 im iz rw t0 u0 h0 y0 sv nn nm nl no nu n1 n2 n3 n4 n5 n6 n7 n8 n9 n10 nf1 nf2 nf3 nf4 nf5 nf6 nf7 nf8 nf9 sn sm sl so su s1 s2 s3 s4 s5 s6 s7 s8 s9 s10 sf1 sf2 sf3 sf4 sf5 sf6 sf7 sf8 sf9 sf10)) hC V ⟨(Nat.le_of_ble_eq_true rfl), (Nat.le_of_ble_eq_true rfl)⟩ ⟨z_17, mm_12, nl, no, u_11, p1, p2, g3_13, p4, p5, p6, g7_14, g8_15, p9, g10_16, rfl, rfl⟩ dX7_doneByCustom_31
