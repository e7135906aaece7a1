/-- what image(i) answers -/
def imgWhy (i : Int32) : Int32 := if i < 0 ∨ nI 2 ≤ i then -2 else nI 0
theorem iw_1 {i : Int32} (h : i < 0 ∨ nI 2 ≤ i) : -2 = imgWhy i := by simp [imgWhy, h]
theorem iw_2 {i : Int32} (h0 : ¬ i < 0) (h1 : ¬ nI 2 ≤ i) : nI 0 = imgWhy i := by simp only [imgWhy]; simp [h0, h1]
/-- what restore(i) answers -/
def resWhy (i a b : Int32) : Int32 := if i < 0 ∨ nI 2 ≤ i then -2 else if i = nI 0 ∧ a = 0 ∨ i = nI 1 ∧ b = 0 then -5 else nI 0

def q_x_count (T : Nat → ClassId) (o : Nat) (wh : Int32) (n0 : Nat) (s0 : Nat) (im : Nat) (iz : Nat) (rw : Nat) (t0 : Nat) (u0 : Nat) (h0 : Nat) (y0 : Nat) (sv : Value) (tf : Nat) (tu : Int32) (tl : Int32) (t1 : Nat) (te : Int32) (tk : Int32) (tr : Int32) (tb : Int32) (nn : Nat) (nm : Int32) (nl : Int32) (no : Int32) (nu : Int32) (n1 : Nat) (n2 : Nat) (n3 : Nat) (n4 : Nat) (n5 : Nat) (n6 : Nat) (n7 : Nat) (n8 : Nat) (n9 : Nat) (n10 : Nat) (nf3 : Nat → Int32) (nf4 : Nat → Int32) (nf5 : Nat → Int32) (nf6 : Nat → Int32) (nf7 : Nat → Int32) : Option Value → va_W → Prop := fun rr ww => (∃ (z : Int32), rr = some (.int z) ∧ ww = [(o, .inr (7, [.ref n0, .ref s0, .ref im, .ref iz, .ref rw, .ref t0, .ref u0, .ref h0, .ref y0, sv])), (t0, .inr (2, [.int (nI tf), .int tu, .int tl, .ref t1, .int te, .int tk, .int tr, .int tb])), (n0, .inr (5, [.int (nI nn), .int nm, .int nl, .int no, .int nu, .ref n1, .ref n2, .ref n3, .ref n4, .ref n5, .ref n6, .ref n7, .ref n8, .ref n9, .ref n10])), (n3, .inl (T 0, 10, .inl nf3)), (n4, .inl (T 0, 10, .inl nf4)), (n5, .inl (T 0, 10, .inl nf5)), (n6, .inl (T 0, 10, .inl nf6)), (n7, .inl (T 0, 10, .inl nf7))])
set_option maxHeartbeats 4000000 in
set_option maxRecDepth 100000 in
theorem x_count (l : Launch) (D : va_G) (T : Nat → ClassId) (o : Nat) (wh : Int32) (n0 : Nat) (s0 : Nat) (im : Nat) (iz : Nat) (rw : Nat) (t0 : Nat) (u0 : Nat) (h0 : Nat) (y0 : Nat) (sv : Value) (tf : Nat) (tu : Int32) (tl : Int32) (t1 : Nat) (te : Int32) (tk : Int32) (tr : Int32) (tb : Int32) (nn : Nat) (nm : Int32) (nl : Int32) (no : Int32) (nu : Int32) (n1 : Nat) (n2 : Nat) (n3 : Nat) (n4 : Nat) (n5 : Nat) (n6 : Nat) (n7 : Nat) (n8 : Nat) (n9 : Nat) (n10 : Nat) (nf3 : Nat → Int32) (nf4 : Nat → Int32) (nf5 : Nat → Int32) (nf6 : Nat → Int32) (nf7 : Nat → Int32) (h_n : nn ≤ 10) : Ct l yX7_count cX7_count 2 (some .int) 2 0 0 D T [.ref o, .int wh] [(o, .inr (7, [.ref n0, .ref s0, .ref im, .ref iz, .ref rw, .ref t0, .ref u0, .ref h0, .ref y0, sv])), (t0, .inr (2, [.int (nI tf), .int tu, .int tl, .ref t1, .int te, .int tk, .int tr, .int tb])), (n0, .inr (5, [.int (nI nn), .int nm, .int nl, .int no, .int nu, .ref n1, .ref n2, .ref n3, .ref n4, .ref n5, .ref n6, .ref n7, .ref n8, .ref n9, .ref n10])), (n3, .inl (T 0, 10, .inl nf3)), (n4, .inl (T 0, 10, .inl nf4)), (n5, .inl (T 0, 10, .inl nf5)), (n6, .inl (T 0, 10, .inl nf6)), (n7, .inl (T 0, 10, .inl nf7))] (q_x_count T o wh n0 s0 im iz rw t0 u0 h0 y0 sv tf tu tl t1 te tk tr tb nn nm nl no nu n1 n2 n3 n4 n5 n6 n7 n8 n9 n10 nf3 nf4 nf5 nf6 nf7) := by
  refine Ct.of (cc := cX7_count) (maxL := 2) (ret := (some .int)) (by decide) (Nat.le_of_ble_eq_true rfl) ?_
  intro p e s m args below meth c A ls hC hnm V hl
  obtain ⟨hx, hb, hr, hml, hown, hts, hlocks⟩ := id hC
  generalize hH : s.heap = H at V ⊢
  clear hH
  have hl : lv_has ls 2 [(0, .ref o), (1, .int wh)] := hl
  generalize hlo : ([] : List Loc) = locs at V ⊢
  clear hlo
  refine lv_iload_n hx hb dX7_count_0 rfl (lv_at hl 1 rfl) ?_
  by_cases c_10 : wh = (nI 0)
  · skip
    refine lv_tableIn (tgt := 52) (off := 51) hx hb dX7_count_1 (by first | decide +kernel | (rw [c_10]; decide +kernel)) (by first | decide +kernel | (rw [c_10]; decide +kernel)) (by first | decide +kernel | (rw [c_10]; decide +kernel)) (by decide) ?_
    refine lv_aload_n hx hb dX7_count_52 rfl (lv_at hl 0 rfl) ?_
    refine g_get hC V (ci := 7) uwX7 0 rfl rfl 0 (by decide) w_249 rfl rfl dX7_count_53 ?_
    refine g_get hC V (ci := 5) uwX5 2 rfl rfl 0 (by decide) w_38 rfl rfl dX7_count_56 ?_
    exact g_iret (Qr := (q_x_count T o wh n0 s0 im iz rw t0 u0 h0 y0 sv tf tu tl t1 te tk tr tb nn nm nl no nu n1 n2 n3 n4 n5 n6 n7 n8 n9 n10 nf3 nf4 nf5 nf6 nf7)) hC V ⟨(Nat.le_of_ble_eq_true rfl), (Nat.le_of_ble_eq_true rfl)⟩ ⟨(nI nn), rfl, rfl⟩ dX7_count_59
  by_cases c_11 : wh = (nI 1)
  · skip
    refine lv_tableIn (tgt := 60) (off := 59) hx hb dX7_count_1 (by first | decide +kernel | (rw [c_11]; decide +kernel)) (by first | decide +kernel | (rw [c_11]; decide +kernel)) (by first | decide +kernel | (rw [c_11]; decide +kernel)) (by decide) ?_
    refine lv_aload_n hx hb dX7_count_60 rfl (lv_at hl 0 rfl) ?_
    refine g_get hC V (ci := 7) uwX7 0 rfl rfl 0 (by decide) w_249 rfl rfl dX7_count_61 ?_
    refine g_get hC V (ci := 5) uwX5 2 rfl rfl 1 (by decide) w_41 rfl rfl dX7_count_64 ?_
    exact g_iret (Qr := (q_x_count T o wh n0 s0 im iz rw t0 u0 h0 y0 sv tf tu tl t1 te tk tr tb nn nm nl no nu n1 n2 n3 n4 n5 n6 n7 n8 n9 n10 nf3 nf4 nf5 nf6 nf7)) hC V ⟨(Nat.le_of_ble_eq_true rfl), (Nat.le_of_ble_eq_true rfl)⟩ ⟨nm, rfl, rfl⟩ dX7_count_67
  by_cases c_12 : wh = (nI 2)
  · skip
    refine lv_tableIn (tgt := 68) (off := 67) hx hb dX7_count_1 (by first | decide +kernel | (rw [c_12]; decide +kernel)) (by first | decide +kernel | (rw [c_12]; decide +kernel)) (by first | decide +kernel | (rw [c_12]; decide +kernel)) (by decide) ?_
    refine lv_aload_n hx hb dX7_count_68 rfl (lv_at hl 0 rfl) ?_
    refine g_get hC V (ci := 7) uwX7 0 rfl rfl 0 (by decide) w_249 rfl rfl dX7_count_69 ?_
    refine g_callVU (nA := 0) hC V hl.1 (s_piecesDone l D T n0 nn nm nl no nu n1 n2 n3 n4 n5 n6 n7 n8 n9 n10 nf6 nf7 (by first | assumption | omega)) w_516 w_517 w_518 w_3 w_519 (by decide +kernel) rfl ⟨(Nat.le_of_ble_eq_true rfl), (Nat.le_of_ble_eq_true rfl)⟩ 2 (ci := 5) rfl rfl [2, 6, 7] rfl rfl (Nat.le_of_ble_eq_true rfl) dX7_count_72 ⟨(Nat.le_of_ble_eq_true rfl), (Nat.le_of_ble_eq_true rfl)⟩ rfl (fun r w1 H locs hQ V => ?_)
    obtain ⟨z_2, rfl, rfl⟩ := hQ
    have V : gW D T A s [(o, .inr (7, [.ref n0, .ref s0, .ref im, .ref iz, .ref rw, .ref t0, .ref u0, .ref h0, .ref y0, sv])), (t0, .inr (2, [.int (nI tf), .int tu, .int tl, .ref t1, .int te, .int tk, .int tr, .int tb])), (n0, .inr (5, [.int (nI nn), .int nm, .int nl, .int no, .int nu, .ref n1, .ref n2, .ref n3, .ref n4, .ref n5, .ref n6, .ref n7, .ref n8, .ref n9, .ref n10])), (n3, .inl (T 0, 10, .inl nf3)), (n4, .inl (T 0, 10, .inl nf4)), (n5, .inl (T 0, 10, .inl nf5)), (n6, .inl (T 0, 10, .inl nf6)), (n7, .inl (T 0, 10, .inl nf7))] H locs := V _ [2, 3, 0] rfl rfl rfl (by decide +kernel) rfl
    show W p l e _ s m args below meth c H locs _ _ _ (F0 m 75 ls [.int z_2])
    exact g_iret (Qr := (q_x_count T o wh n0 s0 im iz rw t0 u0 h0 y0 sv tf tu tl t1 te tk tr tb nn nm nl no nu n1 n2 n3 n4 n5 n6 n7 n8 n9 n10 nf3 nf4 nf5 nf6 nf7)) hC V ⟨(Nat.le_of_ble_eq_true rfl), (Nat.le_of_ble_eq_true rfl)⟩ ⟨z_2, rfl, rfl⟩ dX7_count_75
  by_cases c_13 : wh = (nI 3)
  · skip
    refine lv_tableIn (tgt := 76) (off := 75) hx hb dX7_count_1 (by first | decide +kernel | (rw [c_13]; decide +kernel)) (by first | decide +kernel | (rw [c_13]; decide +kernel)) (by first | decide +kernel | (rw [c_13]; decide +kernel)) (by decide) ?_
    refine lv_aload_n hx hb dX7_count_76 rfl (lv_at hl 0 rfl) ?_
    refine g_get hC V (ci := 7) uwX7 0 rfl rfl 0 (by decide) w_249 rfl rfl dX7_count_77 ?_
    refine g_get hC V (ci := 5) uwX5 2 rfl rfl 4 (by decide) w_50 rfl rfl dX7_count_80 ?_
    exact g_iret (Qr := (q_x_count T o wh n0 s0 im iz rw t0 u0 h0 y0 sv tf tu tl t1 te tk tr tb nn nm nl no nu n1 n2 n3 n4 n5 n6 n7 n8 n9 n10 nf3 nf4 nf5 nf6 nf7)) hC V ⟨(Nat.le_of_ble_eq_true rfl), (Nat.le_of_ble_eq_true rfl)⟩ ⟨nu, rfl, rfl⟩ dX7_count_83
  by_cases c_14 : wh = (nI 4)
  · skip
    refine lv_tableIn (tgt := 84) (off := 83) hx hb dX7_count_1 (by first | decide +kernel | (rw [c_14]; decide +kernel)) (by first | decide +kernel | (rw [c_14]; decide +kernel)) (by first | decide +kernel | (rw [c_14]; decide +kernel)) (by decide) ?_
    refine lv_aload_n hx hb dX7_count_84 rfl (lv_at hl 0 rfl) ?_
    refine g_get hC V (ci := 7) uwX7 0 rfl rfl 0 (by decide) w_249 rfl rfl dX7_count_85 ?_
    refine g_callVU (nA := 0) hC V hl.1 (s_workable l D T n0 nn nm nl no nu n1 n2 n3 n4 n5 n6 n7 n8 n9 n10 nf3 nf4 nf5 (by first | assumption | omega)) w_898 w_899 w_900 w_3 w_901 (by decide +kernel) rfl ⟨(Nat.le_of_ble_eq_true rfl), (Nat.le_of_ble_eq_true rfl)⟩ 2 (ci := 5) rfl rfl [2, 3, 4, 5] rfl rfl (Nat.le_of_ble_eq_true rfl) dX7_count_88 ⟨(Nat.le_of_ble_eq_true rfl), (Nat.le_of_ble_eq_true rfl)⟩ rfl (fun r w1 H locs hQ V => ?_)
    obtain ⟨z_3, rfl, rfl⟩ := hQ
    have V : gW D T A s [(o, .inr (7, [.ref n0, .ref s0, .ref im, .ref iz, .ref rw, .ref t0, .ref u0, .ref h0, .ref y0, sv])), (t0, .inr (2, [.int (nI tf), .int tu, .int tl, .ref t1, .int te, .int tk, .int tr, .int tb])), (n0, .inr (5, [.int (nI nn), .int nm, .int nl, .int no, .int nu, .ref n1, .ref n2, .ref n3, .ref n4, .ref n5, .ref n6, .ref n7, .ref n8, .ref n9, .ref n10])), (n3, .inl (T 0, 10, .inl nf3)), (n4, .inl (T 0, 10, .inl nf4)), (n5, .inl (T 0, 10, .inl nf5)), (n6, .inl (T 0, 10, .inl nf6)), (n7, .inl (T 0, 10, .inl nf7))] H locs := V _ [2, 0, 0, 0] rfl rfl rfl (by decide +kernel) rfl
    show W p l e _ s m args below meth c H locs _ _ _ (F0 m 91 ls [.int z_3])
    exact g_iret (Qr := (q_x_count T o wh n0 s0 im iz rw t0 u0 h0 y0 sv tf tu tl t1 te tk tr tb nn nm nl no nu n1 n2 n3 n4 n5 n6 n7 n8 n9 n10 nf3 nf4 nf5 nf6 nf7)) hC V ⟨(Nat.le_of_ble_eq_true rfl), (Nat.le_of_ble_eq_true rfl)⟩ ⟨z_3, rfl, rfl⟩ dX7_count_91
  by_cases c_15 : wh = (nI 5)
  · skip
    refine lv_tableIn (tgt := 92) (off := 91) hx hb dX7_count_1 (by first | decide +kernel | (rw [c_15]; decide +kernel)) (by first | decide +kernel | (rw [c_15]; decide +kernel)) (by first | decide +kernel | (rw [c_15]; decide +kernel)) (by decide) ?_
    refine lv_aload_n hx hb dX7_count_92 rfl (lv_at hl 0 rfl) ?_
    refine g_get hC V (ci := 7) uwX7 0 rfl rfl 0 (by decide) w_249 rfl rfl dX7_count_93 ?_
    refine g_callVU (nA := 0) hC V hl.1 (s_heatTogether l D T n0 nn nm nl no nu n1 n2 n3 n4 n5 n6 n7 n8 n9 n10 nf3 (by first | assumption | omega)) w_902 w_903 w_904 w_3 w_905 (by decide +kernel) rfl ⟨(Nat.le_of_ble_eq_true rfl), (Nat.le_of_ble_eq_true rfl)⟩ 2 (ci := 5) rfl rfl [2, 3] rfl rfl (Nat.le_of_ble_eq_true rfl) dX7_count_96 ⟨(Nat.le_of_ble_eq_true rfl), (Nat.le_of_ble_eq_true rfl)⟩ rfl (fun r w1 H locs hQ V => ?_)
    obtain ⟨z_4, rfl, rfl⟩ := hQ
    have V : gW D T A s [(o, .inr (7, [.ref n0, .ref s0, .ref im, .ref iz, .ref rw, .ref t0, .ref u0, .ref h0, .ref y0, sv])), (t0, .inr (2, [.int (nI tf), .int tu, .int tl, .ref t1, .int te, .int tk, .int tr, .int tb])), (n0, .inr (5, [.int (nI nn), .int nm, .int nl, .int no, .int nu, .ref n1, .ref n2, .ref n3, .ref n4, .ref n5, .ref n6, .ref n7, .ref n8, .ref n9, .ref n10])), (n3, .inl (T 0, 10, .inl nf3)), (n4, .inl (T 0, 10, .inl nf4)), (n5, .inl (T 0, 10, .inl nf5)), (n6, .inl (T 0, 10, .inl nf6)), (n7, .inl (T 0, 10, .inl nf7))] H locs := V _ [2, 0] rfl rfl rfl (by decide +kernel) rfl
    show W p l e _ s m args below meth c H locs _ _ _ (F0 m 99 ls [.int z_4])
    exact g_iret (Qr := (q_x_count T o wh n0 s0 im iz rw t0 u0 h0 y0 sv tf tu tl t1 te tk tr tb nn nm nl no nu n1 n2 n3 n4 n5 n6 n7 n8 n9 n10 nf3 nf4 nf5 nf6 nf7)) hC V ⟨(Nat.le_of_ble_eq_true rfl), (Nat.le_of_ble_eq_true rfl)⟩ ⟨z_4, rfl, rfl⟩ dX7_count_99
  by_cases c_16 : wh = (nI 6)
  · skip
    refine lv_tableIn (tgt := 100) (off := 99) hx hb dX7_count_1 (by first | decide +kernel | (rw [c_16]; decide +kernel)) (by first | decide +kernel | (rw [c_16]; decide +kernel)) (by first | decide +kernel | (rw [c_16]; decide +kernel)) (by decide) ?_
    refine lv_aload_n hx hb dX7_count_100 rfl (lv_at hl 0 rfl) ?_
    refine g_get hC V (ci := 7) uwX7 0 rfl rfl 5 (by decide) w_254 rfl rfl dX7_count_101 ?_
    refine g_get hC V (ci := 2) uwX2 1 rfl rfl 0 (by decide) w_128 rfl rfl dX7_count_104 ?_
    exact g_iret (Qr := (q_x_count T o wh n0 s0 im iz rw t0 u0 h0 y0 sv tf tu tl t1 te tk tr tb nn nm nl no nu n1 n2 n3 n4 n5 n6 n7 n8 n9 n10 nf3 nf4 nf5 nf6 nf7)) hC V ⟨(Nat.le_of_ble_eq_true rfl), (Nat.le_of_ble_eq_true rfl)⟩ ⟨(nI tf), rfl, rfl⟩ dX7_count_107
  by_cases c_17 : wh = (nI 7)
  · skip
    refine lv_tableIn (tgt := 108) (off := 107) hx hb dX7_count_1 (by first | decide +kernel | (rw [c_17]; decide +kernel)) (by first | decide +kernel | (rw [c_17]; decide +kernel)) (by first | decide +kernel | (rw [c_17]; decide +kernel)) (by decide) ?_
    refine lv_aload_n hx hb dX7_count_108 rfl (lv_at hl 0 rfl) ?_
    refine g_get hC V (ci := 7) uwX7 0 rfl rfl 0 (by decide) w_249 rfl rfl dX7_count_109 ?_
    refine g_get hC V (ci := 5) uwX5 2 rfl rfl 2 (by decide) w_43 rfl rfl dX7_count_112 ?_
    exact g_iret (Qr := (q_x_count T o wh n0 s0 im iz rw t0 u0 h0 y0 sv tf tu tl t1 te tk tr tb nn nm nl no nu n1 n2 n3 n4 n5 n6 n7 n8 n9 n10 nf3 nf4 nf5 nf6 nf7)) hC V ⟨(Nat.le_of_ble_eq_true rfl), (Nat.le_of_ble_eq_true rfl)⟩ ⟨nl, rfl, rfl⟩ dX7_count_115
  by_cases c_18 : wh = (nI 8)
  · skip
    refine lv_tableIn (tgt := 116) (off := 115) hx hb dX7_count_1 (by first | decide +kernel | (rw [c_18]; decide +kernel)) (by first | decide +kernel | (rw [c_18]; decide +kernel)) (by first | decide +kernel | (rw [c_18]; decide +kernel)) (by decide) ?_
    refine lv_aload_n hx hb dX7_count_116 rfl (lv_at hl 0 rfl) ?_
    refine g_get hC V (ci := 7) uwX7 0 rfl rfl 0 (by decide) w_249 rfl rfl dX7_count_117 ?_
    refine g_get hC V (ci := 5) uwX5 2 rfl rfl 3 (by decide) w_48 rfl rfl dX7_count_120 ?_
    exact g_iret (Qr := (q_x_count T o wh n0 s0 im iz rw t0 u0 h0 y0 sv tf tu tl t1 te tk tr tb nn nm nl no nu n1 n2 n3 n4 n5 n6 n7 n8 n9 n10 nf3 nf4 nf5 nf6 nf7)) hC V ⟨(Nat.le_of_ble_eq_true rfl), (Nat.le_of_ble_eq_true rfl)⟩ ⟨no, rfl, rfl⟩ dX7_count_123
  refine lv_tableOut (tgt := 124) hx hb dX7_count_1 (g_out 0 8 (fun k h1 h2 => ?_)) (by decide) ?_
  · intro h
    have h3 : k = 0 ∨ k = 1 ∨ k = 2 ∨ k = 3 ∨ k = 4 ∨ k = 5 ∨ k = 6 ∨ k = 7 ∨ k = 8 := by omega
    rcases h3 with rfl | rfl | rfl | rfl | rfl | rfl | rfl | rfl | rfl
    · exact c_10 (g_out2 h (by decide +kernel))
    · exact c_11 (g_out2 h (by decide +kernel))
    · exact c_12 (g_out2 h (by decide +kernel))
    · exact c_13 (g_out2 h (by decide +kernel))
    · exact c_14 (g_out2 h (by decide +kernel))
    · exact c_15 (g_out2 h (by decide +kernel))
    · exact c_16 (g_out2 h (by decide +kernel))
    · exact c_17 (g_out2 h (by decide +kernel))
    · exact c_18 (g_out2 h (by decide +kernel))
  refine lv_iconst (v := (-1)) hx hb dX7_count_124 (by decide +kernel) ?_
  exact g_iret (Qr := (q_x_count T o wh n0 s0 im iz rw t0 u0 h0 y0 sv tf tu tl t1 te tk tr tb nn nm nl no nu n1 n2 n3 n4 n5 n6 n7 n8 n9 n10 nf3 nf4 nf5 nf6 nf7)) hC V ⟨(Nat.le_of_ble_eq_true rfl), (Nat.le_of_ble_eq_true rfl)⟩ ⟨(-1), rfl, rfl⟩ dX7_count_125

/-- what feed answers, with t bytes on the tape -/
def feedN (t : Nat) : Nat := if 880 < t then t else t + 20
def feedA (t : Nat) : Int32 := if 880 < t then -5 else nI (t + 20)
theorem fd_1 {t : Nat} (h : 880 < t) : -5 = feedA t := by simp [feedA, h]
theorem fd_2 {t k : Nat} (h : ¬ 880 < t) (e : k = t + 20) : nI k = feedA t := by simp [feedA, h, e]
theorem fd_3 {t : Nat} (h : 880 < t) : t = feedN t := by simp [feedN, h]
theorem fd_4 {t k : Nat} (h : ¬ 880 < t) (e : k = t + 20) : k = feedN t := by simp [feedN, h, e]

/-- how many bytes are left on the tape behind street(n) -/
def strN (n : Int32) (t : Nat) : Nat := if n < nI 0 ∨ nI t < n then t else 0
def q_x_soonestB (T : Nat → ClassId) (o : Nat) (n0 : Nat) (s0 : Nat) (im : Nat) (iz : Nat) (rw : Nat) (t0 : Nat) (u0 : Nat) (h0 : Nat) (y0 : Nat) (e0 : Nat) (nn : Nat) (nm : Int32) (nl : Int32) (no : Int32) (nu : Int32) (n1 : Nat) (n2 : Nat) (n3 : Nat) (n4 : Nat) (n5 : Nat) (n6 : Nat) (n7 : Nat) (n8 : Nat) (n9 : Nat) (n10 : Nat) (nf1 : Nat → Int32) (nf2 : Nat → Int32) (nf3 : Nat → Int32) (nf4 : Nat → Int32) (nf5 : Nat → Int32) (nf6 : Nat → Int32) (nf7 : Nat → Int32) (nf9 : Nat → Int32) (e1 : Nat) (e2 : Nat) (em : Int32) (e3 : Nat) (e4 : Nat) (e5 : Nat) (e6 : Nat) (ea : Nat → Int64) (eb : Nat → Int32) (ec : Nat → Int32) (ed : Nat → Int32) (ee : Nat → Int32) (ef : Nat → Int32) : Option Value → va_W → Prop := fun rr ww => (∃ (z : Int32) (em2 : Int32) (g1 : Nat → Int64) (g2 : Nat → Int32) (gc : Nat → Int32) (gd : Nat → Int32) (ge : Nat → Int32) (gf : Nat → Int32), rr = some (.int z) ∧ ww = [(o, .inr (7, [.ref n0, .ref s0, .ref im, .ref iz, .ref rw, .ref t0, .ref u0, .ref h0, .ref y0, .ref e0])), (n0, .inr (5, [.int (nI nn), .int nm, .int nl, .int no, .int nu, .ref n1, .ref n2, .ref n3, .ref n4, .ref n5, .ref n6, .ref n7, .ref n8, .ref n9, .ref n10])), (n1, .inl (T 0, 10, .inl nf1)), (n2, .inl (T 0, 10, .inl nf2)), (n3, .inl (T 0, 10, .inl nf3)), (n4, .inl (T 0, 10, .inl nf4)), (n5, .inl (T 0, 10, .inl nf5)), (n6, .inl (T 0, 10, .inl nf6)), (n7, .inl (T 0, 10, .inl nf7)), (n9, .inl (T 0, 10, .inl nf9)), (e0, .inr (4, [.ref e1, .ref e2, .int em2, .ref e3, .ref e4, .ref e5, .ref e6])), (e1, .inl (T 1, 3001, .inr (.inl g1))), (e2, .inl (T 0, 8192, .inl g2)), (e3, .inl (T 0, 3, .inl gc)), (e4, .inl (T 0, 3, .inl gd)), (e5, .inl (T 0, 3, .inl ge)), (e6, .inl (T 0, 24, .inl gf))])
set_option maxHeartbeats 4000000 in
set_option maxRecDepth 100000 in
theorem x_soonestB (l : Launch) (D : va_G) (T : Nat → ClassId) (o : Nat) (n0 : Nat) (s0 : Nat) (im : Nat) (iz : Nat) (rw : Nat) (t0 : Nat) (u0 : Nat) (h0 : Nat) (y0 : Nat) (e0 : Nat) (nn : Nat) (nm : Int32) (nl : Int32) (no : Int32) (nu : Int32) (n1 : Nat) (n2 : Nat) (n3 : Nat) (n4 : Nat) (n5 : Nat) (n6 : Nat) (n7 : Nat) (n8 : Nat) (n9 : Nat) (n10 : Nat) (nf1 : Nat → Int32) (nf2 : Nat → Int32) (nf3 : Nat → Int32) (nf4 : Nat → Int32) (nf5 : Nat → Int32) (nf6 : Nat → Int32) (nf7 : Nat → Int32) (nf9 : Nat → Int32) (e1 : Nat) (e2 : Nat) (em : Int32) (e3 : Nat) (e4 : Nat) (e5 : Nat) (e6 : Nat) (ea : Nat → Int64) (eb : Nat → Int32) (ec : Nat → Int32) (ed : Nat → Int32) (ee : Nat → Int32) (ef : Nat → Int32) (h_n : nn ≤ 10) : Ct l yX7_soonest cX7_soonest 1 (some .int) 5 0 0 D T [.ref o] [(o, .inr (7, [.ref n0, .ref s0, .ref im, .ref iz, .ref rw, .ref t0, .ref u0, .ref h0, .ref y0, .ref e0])), (n0, .inr (5, [.int (nI nn), .int nm, .int nl, .int no, .int nu, .ref n1, .ref n2, .ref n3, .ref n4, .ref n5, .ref n6, .ref n7, .ref n8, .ref n9, .ref n10])), (n1, .inl (T 0, 10, .inl nf1)), (n2, .inl (T 0, 10, .inl nf2)), (n3, .inl (T 0, 10, .inl nf3)), (n4, .inl (T 0, 10, .inl nf4)), (n5, .inl (T 0, 10, .inl nf5)), (n6, .inl (T 0, 10, .inl nf6)), (n7, .inl (T 0, 10, .inl nf7)), (n9, .inl (T 0, 10, .inl nf9)), (e0, .inr (4, [.ref e1, .ref e2, .int em, .ref e3, .ref e4, .ref e5, .ref e6])), (e1, .inl (T 1, 3001, .inr (.inl ea))), (e2, .inl (T 0, 8192, .inl eb)), (e3, .inl (T 0, 3, .inl ec)), (e4, .inl (T 0, 3, .inl ed)), (e5, .inl (T 0, 3, .inl ee)), (e6, .inl (T 0, 24, .inl ef))] (q_x_soonestB T o n0 s0 im iz rw t0 u0 h0 y0 e0 nn nm nl no nu n1 n2 n3 n4 n5 n6 n7 n8 n9 n10 nf1 nf2 nf3 nf4 nf5 nf6 nf7 nf9 e1 e2 em e3 e4 e5 e6 ea eb ec ed ee ef) := by
  refine Ct.of (cc := cX7_soonest) (maxL := 1) (ret := (some .int)) (by decide) (Nat.le_of_ble_eq_true rfl) ?_
  intro p e s m args below meth c A ls hC hnm V hl
  obtain ⟨hx, hb, hr, hml, hown, hts, hlocks⟩ := id hC
  generalize hH : s.heap = H at V ⊢
  clear hH
  have hl : lv_has ls 1 [(0, .ref o)] := hl
  generalize hlo : ([] : List Loc) = locs at V ⊢
  clear hlo
  refine lv_aload_n hx hb dX7_soonest_0 rfl (lv_at hl 0 rfl) ?_
  refine g_get hC V (ci := 7) uwX7 0 rfl rfl 0 (by decide) w_249 rfl rfl dX7_soonest_1 ?_
  refine g_get hC V (ci := 5) uwX5 1 rfl rfl 0 (by decide) w_38 rfl rfl dX7_soonest_4 ?_
  refine lv_iconst (v := (nI 3)) hx hb dX7_soonest_7 (by decide +kernel) ?_
  refine lv_icmp_le (tgt := 14) hx hb dX7_soonest_8 (by decide) (fun c_1 => ?_) (fun c_1 => ?_)
  · skip
    have c_1 := b_le (by omega) (by omega) c_1
    refine lv_aload_n hx hb dX7_soonest_14 rfl (lv_at hl 0 rfl) ?_
    refine g_get hC V (ci := 7) uwX7 0 rfl rfl 0 (by decide) w_249 rfl rfl dX7_soonest_15 ?_
    refine g_callVU (nA := 0) hC V hl.1 (s_piecesDone l D T n0 nn nm nl no nu n1 n2 n3 n4 n5 n6 n7 n8 n9 n10 nf6 nf7 (by first | assumption | omega)) w_516 w_517 w_518 w_3 w_519 (by decide +kernel) rfl ⟨(Nat.le_of_ble_eq_true rfl), (Nat.le_of_ble_eq_true rfl)⟩ 1 (ci := 5) rfl rfl [1, 7, 8] rfl rfl (Nat.le_of_ble_eq_true rfl) dX7_soonest_18 ⟨(Nat.le_of_ble_eq_true rfl), (Nat.le_of_ble_eq_true rfl)⟩ rfl (fun r w1 H locs hQ V => ?_)
    obtain ⟨z_2, rfl, rfl⟩ := hQ
    have V : gW D T A s [(o, .inr (7, [.ref n0, .ref s0, .ref im, .ref iz, .ref rw, .ref t0, .ref u0, .ref h0, .ref y0, .ref e0])), (n0, .inr (5, [.int (nI nn), .int nm, .int nl, .int no, .int nu, .ref n1, .ref n2, .ref n3, .ref n4, .ref n5, .ref n6, .ref n7, .ref n8, .ref n9, .ref n10])), (n1, .inl (T 0, 10, .inl nf1)), (n2, .inl (T 0, 10, .inl nf2)), (n3, .inl (T 0, 10, .inl nf3)), (n4, .inl (T 0, 10, .inl nf4)), (n5, .inl (T 0, 10, .inl nf5)), (n6, .inl (T 0, 10, .inl nf6)), (n7, .inl (T 0, 10, .inl nf7)), (n9, .inl (T 0, 10, .inl nf9)), (e0, .inr (4, [.ref e1, .ref e2, .int em, .ref e3, .ref e4, .ref e5, .ref e6])), (e1, .inl (T 1, 3001, .inr (.inl ea))), (e2, .inl (T 0, 8192, .inl eb)), (e3, .inl (T 0, 3, .inl ec)), (e4, .inl (T 0, 3, .inl ed)), (e5, .inl (T 0, 3, .inl ee)), (e6, .inl (T 0, 24, .inl ef))] H locs := V _ [1, 5, 0] rfl rfl rfl (by decide +kernel) rfl
    show W p l e _ s m args below meth c H locs _ _ _ (F0 m 21 ls [.int z_2])
    refine lv_aload_n hx hb dX7_soonest_21 rfl (lv_at hl 0 rfl) ?_
    refine g_get hC V (ci := 7) uwX7 0 rfl rfl 0 (by decide) w_249 rfl rfl dX7_soonest_22 ?_
    refine g_get hC V (ci := 5) uwX5 1 rfl rfl 0 (by decide) w_38 rfl rfl dX7_soonest_25 ?_
    refine lv_icmp_ne (tgt := 33) hx hb dX7_soonest_28 (by decide) (fun c_3 => ?_) (fun c_3 => ?_)
    · skip
      refine lv_aload_n hx hb dX7_soonest_33 rfl (lv_at hl 0 rfl) ?_
      refine g_get hC V (ci := 7) uwX7 0 rfl rfl 9 (by decide) w_258 rfl rfl dX7_soonest_34 ?_
      refine lv_ifnonnull (tgt := 51) hx hb dX7_soonest_37 (by decide) ?_
      refine lv_aload_n hx hb dX7_soonest_51 rfl (lv_at hl 0 rfl) ?_
      refine g_get hC V (ci := 7) uwX7 0 rfl rfl 9 (by decide) w_258 rfl rfl dX7_soonest_52 ?_
      refine lv_aload_n hx hb dX7_soonest_55 rfl (lv_at hl 0 rfl) ?_
      refine g_get hC V (ci := 7) uwX7 0 rfl rfl 0 (by decide) w_249 rfl rfl dX7_soonest_56 ?_
      refine g_callVU (nA := 1) hC V hl.1 (e_minutes l D T e0 n0 e1 e2 em e3 e4 e5 e6 ea eb ec ed ee ef nn nm nl no nu n1 n2 n3 n4 n5 n6 n7 n8 n9 n10 nf1 nf2 nf3 nf4 nf5 nf6 nf7 nf9 (by first | assumption | omega)) w_735 w_736 w_737 w_18 w_738 (by decide +kernel) rfl ⟨(Nat.le_of_ble_eq_true rfl), (Nat.le_of_ble_eq_true rfl)⟩ 10 (ci := 4) rfl rfl [10, 11, 12, 13, 14, 15, 16, 1, 2, 3, 4, 5, 6, 7, 8, 9] rfl rfl (Nat.le_of_ble_eq_true rfl) dX7_soonest_59 ⟨(Nat.le_of_ble_eq_true rfl), (Nat.le_of_ble_eq_true rfl)⟩ rfl (fun r w1 H locs hQ V => ?_)
      obtain ⟨z_4, em2_5, g1_6, g2_7, gc_8, gd_9, ge_10, gf_11, rfl, rfl, f_12⟩ := hQ
      have V : gW D T A s [(o, .inr (7, [.ref n0, .ref s0, .ref im, .ref iz, .ref rw, .ref t0, .ref u0, .ref h0, .ref y0, .ref e0])), (n0, .inr (5, [.int (nI nn), .int nm, .int nl, .int no, .int nu, .ref n1, .ref n2, .ref n3, .ref n4, .ref n5, .ref n6, .ref n7, .ref n8, .ref n9, .ref n10])), (n1, .inl (T 0, 10, .inl nf1)), (n2, .inl (T 0, 10, .inl nf2)), (n3, .inl (T 0, 10, .inl nf3)), (n4, .inl (T 0, 10, .inl nf4)), (n5, .inl (T 0, 10, .inl nf5)), (n6, .inl (T 0, 10, .inl nf6)), (n7, .inl (T 0, 10, .inl nf7)), (n9, .inl (T 0, 10, .inl nf9)), (e0, .inr (4, [.ref e1, .ref e2, .int (nI em2_5), .ref e3, .ref e4, .ref e5, .ref e6])), (e1, .inl (T 1, 3001, .inr (.inl g1_6))), (e2, .inl (T 0, 8192, .inl g2_7)), (e3, .inl (T 0, 3, .inl gc_8)), (e4, .inl (T 0, 3, .inl gd_9)), (e5, .inl (T 0, 3, .inl ge_10)), (e6, .inl (T 0, 24, .inl gf_11))] H locs := V _ [1, 0, 0, 0, 0, 0, 0, 0, 0, 0, 0, 0, 0, 0, 0, 0] rfl rfl rfl (by decide +kernel) rfl
      show W p l e _ s m args below meth c H locs _ _ _ (F0 m 62 ls [.int z_4])
      exact g_iret (Qr := (q_x_soonestB T o n0 s0 im iz rw t0 u0 h0 y0 e0 nn nm nl no nu n1 n2 n3 n4 n5 n6 n7 n8 n9 n10 nf1 nf2 nf3 nf4 nf5 nf6 nf7 nf9 e1 e2 em e3 e4 e5 e6 ea eb ec ed ee ef)) hC V ⟨(Nat.le_of_ble_eq_true rfl), (Nat.le_of_ble_eq_true rfl)⟩ ⟨z_4, (nI em2_5), g1_6, g2_7, gc_8, gd_9, ge_10, gf_11, rfl, rfl⟩ dX7_soonest_62
    · skip
      refine lv_iconst (v := (nI 0)) hx hb dX7_soonest_31 (by decide +kernel) ?_
      exact g_iret (Qr := (q_x_soonestB T o n0 s0 im iz rw t0 u0 h0 y0 e0 nn nm nl no nu n1 n2 n3 n4 n5 n6 n7 n8 n9 n10 nf1 nf2 nf3 nf4 nf5 nf6 nf7 nf9 e1 e2 em e3 e4 e5 e6 ea eb ec ed ee ef)) hC V ⟨(Nat.le_of_ble_eq_true rfl), (Nat.le_of_ble_eq_true rfl)⟩ ⟨(nI 0), em, ea, eb, ec, ed, ee, ef, rfl, rfl⟩ dX7_soonest_32
  · skip
    have c_1 := b_nle (by omega) (by omega) c_1
    refine lv_bipush (v := (-4)) hx hb dX7_soonest_11 (by decide +kernel) ?_
    exact g_iret (Qr := (q_x_soonestB T o n0 s0 im iz rw t0 u0 h0 y0 e0 nn nm nl no nu n1 n2 n3 n4 n5 n6 n7 n8 n9 n10 nf1 nf2 nf3 nf4 nf5 nf6 nf7 nf9 e1 e2 em e3 e4 e5 e6 ea eb ec ed ee ef)) hC V ⟨(Nat.le_of_ble_eq_true rfl), (Nat.le_of_ble_eq_true rfl)⟩ ⟨(-4), em, ea, eb, ec, ed, ee, ef, rfl, rfl⟩ dX7_soonest_13

def q_e_init (T : Nat → ClassId) (a0 : Nat) : Option Value → va_W → Prop := fun rr ww => (∃ (b1 : Nat) (b2 : Nat) (b3 : Nat) (b4 : Nat) (b5 : Nat) (b6 : Nat), rr = none ∧ ww = [(a0, .inr (4, [.ref b1, .ref b2, .int (nI 0), .ref b3, .ref b4, .ref b5, .ref b6])), (b1, .inl (T 1, 3001, .inr (.inl (fun _ => 0)))), (b2, .inl (T 0, 8192, .inl (fun _ => nI 0))), (b3, .inl (T 0, 3, .inl (fun _ => nI 0))), (b4, .inl (T 0, 3, .inl (fun _ => nI 0))), (b5, .inl (T 0, 3, .inl (fun _ => nI 0))), (b6, .inl (T 0, 24, .inl (fun _ => nI 0)))])
set_option maxHeartbeats 4000000 in
set_option maxRecDepth 100000 in
theorem e_init (l : Launch) (D : va_G) (T : Nat → ClassId) (a0 : Nat) : Ct l yX4_init cX4_init 1 none 1 6 11226 D T [.ref a0] [(a0, .inr (4, [.null, .null, .int (nI 0), .null, .null, .null, .null]))] (q_e_init T a0) := by
  refine Ct.of (cc := cX4_init) (maxL := 1) (ret := none) (by decide) (Nat.le_of_ble_eq_true rfl) ?_
  intro p e s m args below meth c A ls hC hnm V hl
  obtain ⟨hx, hb, hr, hml, hown, hts, hlocks⟩ := id hC
  generalize hH : s.heap = H at V ⊢
  clear hH
  have hl : lv_has ls 1 [(0, .ref a0)] := hl
  generalize hlo : ([] : List Loc) = locs at V ⊢
  clear hlo
  refine lv_aload_n hx hb dX4_init_0 rfl (lv_at hl 0 rfl) ?_
  refine g_objInit hC hl.1 w_712 w_25 w_26 dX4_init_1 (Nat.le_of_ble_eq_true rfl) (Nat.le_of_ble_eq_true rfl) (Nat.le_of_ble_eq_true rfl) ?_
  refine lv_aload_n hx hb dX4_init_4 rfl (lv_at hl 0 rfl) ?_
  refine lv_sipush (v := (nI 3001)) hx hb dX4_init_5 (by decide +kernel) ?_
  refine g_newa hC V (atype := .long) (ty := .long) w_248 rfl 1 rfl (fun _ h => by cases h) (N := 3001) (a0 := (3001, .inr (.inl (fun _ => 0)))) (fun _ => rfl) (by decide) (by decide) (Nat.le_of_ble_eq_true rfl) (Nat.le_of_ble_eq_true rfl) dX4_init_8 (fun q_1 H V => ?_)
  have V : gW D T A s [(a0, .inr (4, [.null, .null, .int (nI 0), .null, .null, .null, .null])), (q_1, .inl (T 1, 3001, .inr (.inl (fun _ => 0))))] H locs := V
  refine g_putF hC hnm V (ci := 4) uwX4 tyX4 tyX4_ok nmX4 0 rfl rfl 0 (by decide) w_713 rfl rfl rfl rfl rfl (Nat.le_of_ble_eq_true rfl) (ws' := [(a0, .inr (4, [.ref q_1, .null, .int (nI 0), .null, .null, .null, .null])), (q_1, .inl (T 1, 3001, .inr (.inl (fun _ => 0))))]) rfl dX4_init_10 (fun H locs V => ?_)
  refine lv_aload_n hx hb dX4_init_13 rfl (lv_at hl 0 rfl) ?_
  refine lv_sipush (v := (nI 8192)) hx hb dX4_init_14 (by decide +kernel) ?_
  refine g_newa hC V (atype := .int) (ty := .int) w_118 rfl 0 rfl (fun _ h => by cases h) (N := 8192) (a0 := (8192, .inl (fun _ => nI 0))) (fun _ => rfl) (by decide) (by decide) (Nat.le_of_ble_eq_true rfl) (Nat.le_of_ble_eq_true rfl) dX4_init_17 (fun q_2 H V => ?_)
  have V : gW D T A s [(a0, .inr (4, [.ref q_1, .null, .int (nI 0), .null, .null, .null, .null])), (q_1, .inl (T 1, 3001, .inr (.inl (fun _ => 0)))), (q_2, .inl (T 0, 8192, .inl (fun _ => nI 0)))] H locs := V
  refine g_putF hC hnm V (ci := 4) uwX4 tyX4 tyX4_ok nmX4 0 rfl rfl 1 (by decide) w_714 rfl rfl rfl rfl rfl (Nat.le_of_ble_eq_true rfl) (ws' := [(a0, .inr (4, [.ref q_1, .ref q_2, .int (nI 0), .null, .null, .null, .null])), (q_1, .inl (T 1, 3001, .inr (.inl (fun _ => 0)))), (q_2, .inl (T 0, 8192, .inl (fun _ => nI 0)))]) rfl dX4_init_19 (fun H locs V => ?_)
  refine lv_aload_n hx hb dX4_init_22 rfl (lv_at hl 0 rfl) ?_
  refine lv_iconst (v := (nI 3)) hx hb dX4_init_23 (by decide +kernel) ?_
  refine g_newa hC V (atype := .int) (ty := .int) w_118 rfl 0 rfl (fun _ h => by cases h) (N := 3) (a0 := (3, .inl (fun _ => nI 0))) (fun _ => rfl) (by decide) (by decide) (Nat.le_of_ble_eq_true rfl) (Nat.le_of_ble_eq_true rfl) dX4_init_24 (fun q_3 H V => ?_)
  have V : gW D T A s [(a0, .inr (4, [.ref q_1, .ref q_2, .int (nI 0), .null, .null, .null, .null])), (q_1, .inl (T 1, 3001, .inr (.inl (fun _ => 0)))), (q_2, .inl (T 0, 8192, .inl (fun _ => nI 0))), (q_3, .inl (T 0, 3, .inl (fun _ => nI 0)))] H locs := V
  refine g_putF hC hnm V (ci := 4) uwX4 tyX4 tyX4_ok nmX4 0 rfl rfl 3 (by decide) w_716 rfl rfl rfl rfl rfl (Nat.le_of_ble_eq_true rfl) (ws' := [(a0, .inr (4, [.ref q_1, .ref q_2, .int (nI 0), .ref q_3, .null, .null, .null])), (q_1, .inl (T 1, 3001, .inr (.inl (fun _ => 0)))), (q_2, .inl (T 0, 8192, .inl (fun _ => nI 0))), (q_3, .inl (T 0, 3, .inl (fun _ => nI 0)))]) rfl dX4_init_26 (fun H locs V => ?_)
  refine lv_aload_n hx hb dX4_init_29 rfl (lv_at hl 0 rfl) ?_
  refine lv_iconst (v := (nI 3)) hx hb dX4_init_30 (by decide +kernel) ?_
  refine g_newa hC V (atype := .int) (ty := .int) w_118 rfl 0 rfl (fun _ h => by cases h) (N := 3) (a0 := (3, .inl (fun _ => nI 0))) (fun _ => rfl) (by decide) (by decide) (Nat.le_of_ble_eq_true rfl) (Nat.le_of_ble_eq_true rfl) dX4_init_31 (fun q_4 H V => ?_)
  have V : gW D T A s [(a0, .inr (4, [.ref q_1, .ref q_2, .int (nI 0), .ref q_3, .null, .null, .null])), (q_1, .inl (T 1, 3001, .inr (.inl (fun _ => 0)))), (q_2, .inl (T 0, 8192, .inl (fun _ => nI 0))), (q_3, .inl (T 0, 3, .inl (fun _ => nI 0))), (q_4, .inl (T 0, 3, .inl (fun _ => nI 0)))] H locs := V
  refine g_putF hC hnm V (ci := 4) uwX4 tyX4 tyX4_ok nmX4 0 rfl rfl 4 (by decide) w_717 rfl rfl rfl rfl rfl (Nat.le_of_ble_eq_true rfl) (ws' := [(a0, .inr (4, [.ref q_1, .ref q_2, .int (nI 0), .ref q_3, .ref q_4, .null, .null])), (q_1, .inl (T 1, 3001, .inr (.inl (fun _ => 0)))), (q_2, .inl (T 0, 8192, .inl (fun _ => nI 0))), (q_3, .inl (T 0, 3, .inl (fun _ => nI 0))), (q_4, .inl (T 0, 3, .inl (fun _ => nI 0)))]) rfl dX4_init_33 (fun H locs V => ?_)
  refine lv_aload_n hx hb dX4_init_36 rfl (lv_at hl 0 rfl) ?_
  refine lv_iconst (v := (nI 3)) hx hb dX4_init_37 (by decide +kernel) ?_
  refine g_newa hC V (atype := .int) (ty := .int) w_118 rfl 0 rfl (fun _ h => by cases h) (N := 3) (a0 := (3, .inl (fun _ => nI 0))) (fun _ => rfl) (by decide) (by decide) (Nat.le_of_ble_eq_true rfl) (Nat.le_of_ble_eq_true rfl) dX4_init_38 (fun q_5 H V => ?_)
  have V : gW D T A s [(a0, .inr (4, [.ref q_1, .ref q_2, .int (nI 0), .ref q_3, .ref q_4, .null, .null])), (q_1, .inl (T 1, 3001, .inr (.inl (fun _ => 0)))), (q_2, .inl (T 0, 8192, .inl (fun _ => nI 0))), (q_3, .inl (T 0, 3, .inl (fun _ => nI 0))), (q_4, .inl (T 0, 3, .inl (fun _ => nI 0))), (q_5, .inl (T 0, 3, .inl (fun _ => nI 0)))] H locs := V
  refine g_putF hC hnm V (ci := 4) uwX4 tyX4 tyX4_ok nmX4 0 rfl rfl 5 (by decide) w_718 rfl rfl rfl rfl rfl (Nat.le_of_ble_eq_true rfl) (ws' := [(a0, .inr (4, [.ref q_1, .ref q_2, .int (nI 0), .ref q_3, .ref q_4, .ref q_5, .null])), (q_1, .inl (T 1, 3001, .inr (.inl (fun _ => 0)))), (q_2, .inl (T 0, 8192, .inl (fun _ => nI 0))), (q_3, .inl (T 0, 3, .inl (fun _ => nI 0))), (q_4, .inl (T 0, 3, .inl (fun _ => nI 0))), (q_5, .inl (T 0, 3, .inl (fun _ => nI 0)))]) rfl dX4_init_40 (fun H locs V => ?_)
  refine lv_aload_n hx hb dX4_init_43 rfl (lv_at hl 0 rfl) ?_
  refine lv_bipush (v := (nI 24)) hx hb dX4_init_44 (by decide +kernel) ?_
  refine g_newa hC V (atype := .int) (ty := .int) w_118 rfl 0 rfl (fun _ h => by cases h) (N := 24) (a0 := (24, .inl (fun _ => nI 0))) (fun _ => rfl) (by decide) (by decide) (Nat.le_of_ble_eq_true rfl) (Nat.le_of_ble_eq_true rfl) dX4_init_46 (fun q_6 H V => ?_)
  have V : gW D T A s [(a0, .inr (4, [.ref q_1, .ref q_2, .int (nI 0), .ref q_3, .ref q_4, .ref q_5, .null])), (q_1, .inl (T 1, 3001, .inr (.inl (fun _ => 0)))), (q_2, .inl (T 0, 8192, .inl (fun _ => nI 0))), (q_3, .inl (T 0, 3, .inl (fun _ => nI 0))), (q_4, .inl (T 0, 3, .inl (fun _ => nI 0))), (q_5, .inl (T 0, 3, .inl (fun _ => nI 0))), (q_6, .inl (T 0, 24, .inl (fun _ => nI 0)))] H locs := V
  refine g_putF hC hnm V (ci := 4) uwX4 tyX4 tyX4_ok nmX4 0 rfl rfl 6 (by decide) w_719 rfl rfl rfl rfl rfl (Nat.le_of_ble_eq_true rfl) (ws' := [(a0, .inr (4, [.ref q_1, .ref q_2, .int (nI 0), .ref q_3, .ref q_4, .ref q_5, .ref q_6])), (q_1, .inl (T 1, 3001, .inr (.inl (fun _ => 0)))), (q_2, .inl (T 0, 8192, .inl (fun _ => nI 0))), (q_3, .inl (T 0, 3, .inl (fun _ => nI 0))), (q_4, .inl (T 0, 3, .inl (fun _ => nI 0))), (q_5, .inl (T 0, 3, .inl (fun _ => nI 0))), (q_6, .inl (T 0, 24, .inl (fun _ => nI 0)))]) rfl dX4_init_48 (fun H locs V => ?_)
  exact g_vret (Qr := (q_e_init T a0)) hC V ⟨(Nat.le_of_ble_eq_true rfl), (Nat.le_of_ble_eq_true rfl)⟩ ⟨q_1, q_2, q_3, q_4, q_5, q_6, rfl, rfl⟩ dX4_init_51

def q_x_soonestA (T : Nat → ClassId) (o : Nat) (n0 : Nat) (s0 : Nat) (im : Nat) (iz : Nat) (rw : Nat) (t0 : Nat) (u0 : Nat) (h0 : Nat) (y0 : Nat) (nn : Nat) (nm : Int32) (nl : Int32) (no : Int32) (nu : Int32) (n1 : Nat) (n2 : Nat) (n3 : Nat) (n4 : Nat) (n5 : Nat) (n6 : Nat) (n7 : Nat) (n8 : Nat) (n9 : Nat) (n10 : Nat) (nf1 : Nat → Int32) (nf2 : Nat → Int32) (nf3 : Nat → Int32) (nf4 : Nat → Int32) (nf5 : Nat → Int32) (nf6 : Nat → Int32) (nf7 : Nat → Int32) (nf9 : Nat → Int32) : Option Value → va_W → Prop := fun rr ww => (∃ (z : Int32), rr = some (.int z) ∧ ww = [(o, .inr (7, [.ref n0, .ref s0, .ref im, .ref iz, .ref rw, .ref t0, .ref u0, .ref h0, .ref y0, .null])), (n0, .inr (5, [.int (nI nn), .int nm, .int nl, .int no, .int nu, .ref n1, .ref n2, .ref n3, .ref n4, .ref n5, .ref n6, .ref n7, .ref n8, .ref n9, .ref n10])), (n1, .inl (T 0, 10, .inl nf1)), (n2, .inl (T 0, 10, .inl nf2)), (n3, .inl (T 0, 10, .inl nf3)), (n4, .inl (T 0, 10, .inl nf4)), (n5, .inl (T 0, 10, .inl nf5)), (n6, .inl (T 0, 10, .inl nf6)), (n7, .inl (T 0, 10, .inl nf7)), (n9, .inl (T 0, 10, .inl nf9))]) ∨ (∃ (z : Int32) (e0 : Nat) (e1 : Nat) (e2 : Nat) (e3 : Nat) (e4 : Nat) (e5 : Nat) (e6 : Nat) (em2 : Int32) (g1 : Nat → Int64) (g2 : Nat → Int32) (gc : Nat → Int32) (gd : Nat → Int32) (ge : Nat → Int32) (gf : Nat → Int32), rr = some (.int z) ∧ ww = [(o, .inr (7, [.ref n0, .ref s0, .ref im, .ref iz, .ref rw, .ref t0, .ref u0, .ref h0, .ref y0, .ref e0])), (n0, .inr (5, [.int (nI nn), .int nm, .int nl, .int no, .int nu, .ref n1, .ref n2, .ref n3, .ref n4, .ref n5, .ref n6, .ref n7, .ref n8, .ref n9, .ref n10])), (n1, .inl (T 0, 10, .inl nf1)), (n2, .inl (T 0, 10, .inl nf2)), (n3, .inl (T 0, 10, .inl nf3)), (n4, .inl (T 0, 10, .inl nf4)), (n5, .inl (T 0, 10, .inl nf5)), (n6, .inl (T 0, 10, .inl nf6)), (n7, .inl (T 0, 10, .inl nf7)), (n9, .inl (T 0, 10, .inl nf9)), (e0, .inr (4, [.ref e1, .ref e2, .int em2, .ref e3, .ref e4, .ref e5, .ref e6])), (e1, .inl (T 1, 3001, .inr (.inl g1))), (e2, .inl (T 0, 8192, .inl g2)), (e3, .inl (T 0, 3, .inl gc)), (e4, .inl (T 0, 3, .inl gd)), (e5, .inl (T 0, 3, .inl ge)), (e6, .inl (T 0, 24, .inl gf))])
set_option maxHeartbeats 4000000 in
set_option maxRecDepth 100000 in
theorem x_soonestA (l : Launch) (D : va_G) (T : Nat → ClassId) (o : Nat) (n0 : Nat) (s0 : Nat) (im : Nat) (iz : Nat) (rw : Nat) (t0 : Nat) (u0 : Nat) (h0 : Nat) (y0 : Nat) (nn : Nat) (nm : Int32) (nl : Int32) (no : Int32) (nu : Int32) (n1 : Nat) (n2 : Nat) (n3 : Nat) (n4 : Nat) (n5 : Nat) (n6 : Nat) (n7 : Nat) (n8 : Nat) (n9 : Nat) (n10 : Nat) (nf1 : Nat → Int32) (nf2 : Nat → Int32) (nf3 : Nat → Int32) (nf4 : Nat → Int32) (nf5 : Nat → Int32) (nf6 : Nat → Int32) (nf7 : Nat → Int32) (nf9 : Nat → Int32) (h_n : nn ≤ 10) : Ct l yX7_soonest cX7_soonest 1 (some .int) 5 7 11233 D T [.ref o] [(o, .inr (7, [.ref n0, .ref s0, .ref im, .ref iz, .ref rw, .ref t0, .ref u0, .ref h0, .ref y0, .null])), (n0, .inr (5, [.int (nI nn), .int nm, .int nl, .int no, .int nu, .ref n1, .ref n2, .ref n3, .ref n4, .ref n5, .ref n6, .ref n7, .ref n8, .ref n9, .ref n10])), (n1, .inl (T 0, 10, .inl nf1)), (n2, .inl (T 0, 10, .inl nf2)), (n3, .inl (T 0, 10, .inl nf3)), (n4, .inl (T 0, 10, .inl nf4)), (n5, .inl (T 0, 10, .inl nf5)), (n6, .inl (T 0, 10, .inl nf6)), (n7, .inl (T 0, 10, .inl nf7)), (n9, .inl (T 0, 10, .inl nf9))] (q_x_soonestA T o n0 s0 im iz rw t0 u0 h0 y0 nn nm nl no nu n1 n2 n3 n4 n5 n6 n7 n8 n9 n10 nf1 nf2 nf3 nf4 nf5 nf6 nf7 nf9) := by
  refine Ct.of (cc := cX7_soonest) (maxL := 1) (ret := (some .int)) (by decide) (Nat.le_of_ble_eq_true rfl) ?_
  intro p e s m args below meth c A ls hC hnm V hl
  obtain ⟨hx, hb, hr, hml, hown, hts, hlocks⟩ := id hC
  generalize hH : s.heap = H at V ⊢
  clear hH
  have hl : lv_has ls 1 [(0, .ref o)] := hl
  generalize hlo : ([] : List Loc) = locs at V ⊢
  clear hlo
  refine lv_aload_n hx hb dX7_soonest_0 rfl (lv_at hl 0 rfl) ?_
  refine g_get hC V (ci := 7) uwX7 0 rfl rfl 0 (by decide) w_249 rfl rfl dX7_soonest_1 ?_
  refine g_get hC V (ci := 5) uwX5 1 rfl rfl 0 (by decide) w_38 rfl rfl dX7_soonest_4 ?_
  refine lv_iconst (v := (nI 3)) hx hb dX7_soonest_7 (by decide +kernel) ?_
  refine lv_icmp_le (tgt := 14) hx hb dX7_soonest_8 (by decide) (fun c_1 => ?_) (fun c_1 => ?_)
  · skip
    have c_1 := b_le (by omega) (by omega) c_1
    refine lv_aload_n hx hb dX7_soonest_14 rfl (lv_at hl 0 rfl) ?_
    refine g_get hC V (ci := 7) uwX7 0 rfl rfl 0 (by decide) w_249 rfl rfl dX7_soonest_15 ?_
    refine g_callVU (nA := 0) hC V hl.1 (s_piecesDone l D T n0 nn nm nl no nu n1 n2 n3 n4 n5 n6 n7 n8 n9 n10 nf6 nf7 (by first | assumption | omega)) w_516 w_517 w_518 w_3 w_519 (by decide +kernel) rfl ⟨(Nat.le_of_ble_eq_true rfl), (Nat.le_of_ble_eq_true rfl)⟩ 1 (ci := 5) rfl rfl [1, 7, 8] rfl rfl (Nat.le_of_ble_eq_true rfl) dX7_soonest_18 ⟨(Nat.le_of_ble_eq_true rfl), (Nat.le_of_ble_eq_true rfl)⟩ rfl (fun r w1 H locs hQ V => ?_)
    obtain ⟨z_2, rfl, rfl⟩ := hQ
    have V : gW D T A s [(o, .inr (7, [.ref n0, .ref s0, .ref im, .ref iz, .ref rw, .ref t0, .ref u0, .ref h0, .ref y0, .null])), (n0, .inr (5, [.int (nI nn), .int nm, .int nl, .int no, .int nu, .ref n1, .ref n2, .ref n3, .ref n4, .ref n5, .ref n6, .ref n7, .ref n8, .ref n9, .ref n10])), (n1, .inl (T 0, 10, .inl nf1)), (n2, .inl (T 0, 10, .inl nf2)), (n3, .inl (T 0, 10, .inl nf3)), (n4, .inl (T 0, 10, .inl nf4)), (n5, .inl (T 0, 10, .inl nf5)), (n6, .inl (T 0, 10, .inl nf6)), (n7, .inl (T 0, 10, .inl nf7)), (n9, .inl (T 0, 10, .inl nf9))] H locs := V _ [1, 5, 0] rfl rfl rfl (by decide +kernel) rfl
    show W p l e _ s m args below meth c H locs _ _ _ (F0 m 21 ls [.int z_2])
    refine lv_aload_n hx hb dX7_soonest_21 rfl (lv_at hl 0 rfl) ?_
    refine g_get hC V (ci := 7) uwX7 0 rfl rfl 0 (by decide) w_249 rfl rfl dX7_soonest_22 ?_
    refine g_get hC V (ci := 5) uwX5 1 rfl rfl 0 (by decide) w_38 rfl rfl dX7_soonest_25 ?_
    refine lv_icmp_ne (tgt := 33) hx hb dX7_soonest_28 (by decide) (fun c_3 => ?_) (fun c_3 => ?_)
    · skip
      refine lv_aload_n hx hb dX7_soonest_33 rfl (lv_at hl 0 rfl) ?_
      refine g_get hC V (ci := 7) uwX7 0 rfl rfl 9 (by decide) w_258 rfl rfl dX7_soonest_34 ?_
      refine lv_ifnonnullN hx hb dX7_soonest_37 ?_
      refine lv_aload_n hx hb dX7_soonest_40 rfl (lv_at hl 0 rfl) ?_
      refine g_new hC V (ci := 4) uwX4 tyX4 tyX4_ok w_707 w_708 w_18 rfl (fs := [.null, .null, .int (nI 0), .null, .null, .null, .null]) (by decide +kernel) (Nat.le_of_ble_eq_true rfl) (Nat.le_of_ble_eq_true rfl) dX7_soonest_41 (fun q_4 H V => ?_)
      have V : gW D T A s [(o, .inr (7, [.ref n0, .ref s0, .ref im, .ref iz, .ref rw, .ref t0, .ref u0, .ref h0, .ref y0, .null])), (n0, .inr (5, [.int (nI nn), .int nm, .int nl, .int no, .int nu, .ref n1, .ref n2, .ref n3, .ref n4, .ref n5, .ref n6, .ref n7, .ref n8, .ref n9, .ref n10])), (n1, .inl (T 0, 10, .inl nf1)), (n2, .inl (T 0, 10, .inl nf2)), (n3, .inl (T 0, 10, .inl nf3)), (n4, .inl (T 0, 10, .inl nf4)), (n5, .inl (T 0, 10, .inl nf5)), (n6, .inl (T 0, 10, .inl nf6)), (n7, .inl (T 0, 10, .inl nf7)), (n9, .inl (T 0, 10, .inl nf9)), (q_4, .inr (4, [.null, .null, .int (nI 0), .null, .null, .null, .null]))] H locs := V
      refine lv_dup hx hb dX7_soonest_44 rfl ?_
      refine g_callIN (wr := [(o, .inr (7, [.ref n0, .ref s0, .ref im, .ref iz, .ref rw, .ref t0, .ref u0, .ref h0, .ref y0, .null])), (n0, .inr (5, [.int (nI nn), .int nm, .int nl, .int no, .int nu, .ref n1, .ref n2, .ref n3, .ref n4, .ref n5, .ref n6, .ref n7, .ref n8, .ref n9, .ref n10])), (n1, .inl (T 0, 10, .inl nf1)), (n2, .inl (T 0, 10, .inl nf2)), (n3, .inl (T 0, 10, .inl nf3)), (n4, .inl (T 0, 10, .inl nf4)), (n5, .inl (T 0, 10, .inl nf5)), (n6, .inl (T 0, 10, .inl nf6)), (n7, .inl (T 0, 10, .inl nf7)), (n9, .inl (T 0, 10, .inl nf9))]) (nA := 0) (host := RX7) hC V hl.1 (e_init l D T q_4) w_711 (List.mem_of_getElem? (i := 0) rfl) w_18 w_710 rfl (by decide +kernel) rfl ⟨(Nat.le_of_ble_eq_true rfl), (Nat.le_of_ble_eq_true rfl)⟩ [10] [0, 1, 2, 3, 4, 5, 6, 7, 8, 9] rfl rfl rfl rfl (by decide) (Nat.le_of_ble_eq_true rfl) dX7_soonest_45 ⟨(Nat.le_of_ble_eq_true rfl), (Nat.le_of_ble_eq_true rfl)⟩ rfl (fun r w1 H locs hQ V => ?_)
      obtain ⟨b1_5, b2_6, b3_7, b4_8, b5_9, b6_10, rfl, rfl⟩ := hQ
      have V : gW D T A s [(o, .inr (7, [.ref n0, .ref s0, .ref im, .ref iz, .ref rw, .ref t0, .ref u0, .ref h0, .ref y0, .null])), (n0, .inr (5, [.int (nI nn), .int nm, .int nl, .int no, .int nu, .ref n1, .ref n2, .ref n3, .ref n4, .ref n5, .ref n6, .ref n7, .ref n8, .ref n9, .ref n10])), (n1, .inl (T 0, 10, .inl nf1)), (n2, .inl (T 0, 10, .inl nf2)), (n3, .inl (T 0, 10, .inl nf3)), (n4, .inl (T 0, 10, .inl nf4)), (n5, .inl (T 0, 10, .inl nf5)), (n6, .inl (T 0, 10, .inl nf6)), (n7, .inl (T 0, 10, .inl nf7)), (n9, .inl (T 0, 10, .inl nf9)), (q_4, .inr (4, [.ref b1_5, .ref b2_6, .int (nI 0), .ref b3_7, .ref b4_8, .ref b5_9, .ref b6_10])), (b1_5, .inl (T 1, 3001, .inr (.inl (fun _ => 0)))), (b2_6, .inl (T 0, 8192, .inl (fun _ => nI 0))), (b3_7, .inl (T 0, 3, .inl (fun _ => nI 0))), (b4_8, .inl (T 0, 3, .inl (fun _ => nI 0))), (b5_9, .inl (T 0, 3, .inl (fun _ => nI 0))), (b6_10, .inl (T 0, 24, .inl (fun _ => nI 0)))] H locs := V
      show W p l e _ s m args below meth c H locs _ _ _ (F0 m 48 ls [.ref q_4, .ref o])
      refine g_put hC V (ci := 7) uwX7 tyX7 tyX7_ok nmX7 0 rfl rfl 9 (by decide) w_258 rfl rfl rfl rfl (Nat.le_of_ble_eq_true rfl) (ws' := [(o, .inr (7, [.ref n0, .ref s0, .ref im, .ref iz, .ref rw, .ref t0, .ref u0, .ref h0, .ref y0, .ref q_4])), (n0, .inr (5, [.int (nI nn), .int nm, .int nl, .int no, .int nu, .ref n1, .ref n2, .ref n3, .ref n4, .ref n5, .ref n6, .ref n7, .ref n8, .ref n9, .ref n10])), (n1, .inl (T 0, 10, .inl nf1)), (n2, .inl (T 0, 10, .inl nf2)), (n3, .inl (T 0, 10, .inl nf3)), (n4, .inl (T 0, 10, .inl nf4)), (n5, .inl (T 0, 10, .inl nf5)), (n6, .inl (T 0, 10, .inl nf6)), (n7, .inl (T 0, 10, .inl nf7)), (n9, .inl (T 0, 10, .inl nf9)), (q_4, .inr (4, [.ref b1_5, .ref b2_6, .int (nI 0), .ref b3_7, .ref b4_8, .ref b5_9, .ref b6_10])), (b1_5, .inl (T 1, 3001, .inr (.inl (fun _ => 0)))), (b2_6, .inl (T 0, 8192, .inl (fun _ => nI 0))), (b3_7, .inl (T 0, 3, .inl (fun _ => nI 0))), (b4_8, .inl (T 0, 3, .inl (fun _ => nI 0))), (b5_9, .inl (T 0, 3, .inl (fun _ => nI 0))), (b6_10, .inl (T 0, 24, .inl (fun _ => nI 0)))]) rfl dX7_soonest_48 (fun H locs V => ?_)
      refine lv_aload_n hx hb dX7_soonest_51 rfl (lv_at hl 0 rfl) ?_
      refine g_get hC V (ci := 7) uwX7 0 rfl rfl 9 (by decide) w_258 rfl rfl dX7_soonest_52 ?_
      refine lv_aload_n hx hb dX7_soonest_55 rfl (lv_at hl 0 rfl) ?_
      refine g_get hC V (ci := 7) uwX7 0 rfl rfl 0 (by decide) w_249 rfl rfl dX7_soonest_56 ?_
      refine g_callVU (nA := 1) hC V hl.1 (e_minutes l D T q_4 n0 b1_5 b2_6 (nI 0) b3_7 b4_8 b5_9 b6_10 (fun _ => 0) (fun _ => nI 0) (fun _ => nI 0) (fun _ => nI 0) (fun _ => nI 0) (fun _ => nI 0) nn nm nl no nu n1 n2 n3 n4 n5 n6 n7 n8 n9 n10 nf1 nf2 nf3 nf4 nf5 nf6 nf7 nf9 (by first | assumption | omega)) w_735 w_736 w_737 w_18 w_738 (by decide +kernel) rfl ⟨(Nat.le_of_ble_eq_true rfl), (Nat.le_of_ble_eq_true rfl)⟩ 10 (ci := 4) rfl rfl [10, 11, 12, 13, 14, 15, 16, 1, 2, 3, 4, 5, 6, 7, 8, 9] rfl rfl (Nat.le_of_ble_eq_true rfl) dX7_soonest_59 ⟨(Nat.le_of_ble_eq_true rfl), (Nat.le_of_ble_eq_true rfl)⟩ rfl (fun r w1 H locs hQ V => ?_)
      obtain ⟨z_11, em2_12, g1_13, g2_14, gc_15, gd_16, ge_17, gf_18, rfl, rfl, f_19⟩ := hQ
      have V : gW D T A s [(o, .inr (7, [.ref n0, .ref s0, .ref im, .ref iz, .ref rw, .ref t0, .ref u0, .ref h0, .ref y0, .ref q_4])), (n0, .inr (5, [.int (nI nn), .int nm, .int nl, .int no, .int nu, .ref n1, .ref n2, .ref n3, .ref n4, .ref n5, .ref n6, .ref n7, .ref n8, .ref n9, .ref n10])), (n1, .inl (T 0, 10, .inl nf1)), (n2, .inl (T 0, 10, .inl nf2)), (n3, .inl (T 0, 10, .inl nf3)), (n4, .inl (T 0, 10, .inl nf4)), (n5, .inl (T 0, 10, .inl nf5)), (n6, .inl (T 0, 10, .inl nf6)), (n7, .inl (T 0, 10, .inl nf7)), (n9, .inl (T 0, 10, .inl nf9)), (q_4, .inr (4, [.ref b1_5, .ref b2_6, .int (nI em2_12), .ref b3_7, .ref b4_8, .ref b5_9, .ref b6_10])), (b1_5, .inl (T 1, 3001, .inr (.inl g1_13))), (b2_6, .inl (T 0, 8192, .inl g2_14)), (b3_7, .inl (T 0, 3, .inl gc_15)), (b4_8, .inl (T 0, 3, .inl gd_16)), (b5_9, .inl (T 0, 3, .inl ge_17)), (b6_10, .inl (T 0, 24, .inl gf_18))] H locs := V _ [1, 0, 0, 0, 0, 0, 0, 0, 0, 0, 0, 0, 0, 0, 0, 0] rfl rfl rfl (by decide +kernel) rfl
      show W p l e _ s m args below meth c H locs _ _ _ (F0 m 62 ls [.int z_11])
      exact g_iret (Qr := (q_x_soonestA T o n0 s0 im iz rw t0 u0 h0 y0 nn nm nl no nu n1 n2 n3 n4 n5 n6 n7 n8 n9 n10 nf1 nf2 nf3 nf4 nf5 nf6 nf7 nf9)) hC V ⟨(Nat.le_of_ble_eq_true rfl), (Nat.le_of_ble_eq_true rfl)⟩ (.inr ⟨z_11, q_4, b1_5, b2_6, b3_7, b4_8, b5_9, b6_10, (nI em2_12), g1_13, g2_14, gc_15, gd_16, ge_17, gf_18, rfl, rfl⟩) dX7_soonest_62
    · skip
      refine lv_iconst (v := (nI 0)) hx hb dX7_soonest_31 (by decide +kernel) ?_
      exact g_iret (Qr := (q_x_soonestA T o n0 s0 im iz rw t0 u0 h0 y0 nn nm nl no nu n1 n2 n3 n4 n5 n6 n7 n8 n9 n10 nf1 nf2 nf3 nf4 nf5 nf6 nf7 nf9)) hC V ⟨(Nat.le_of_ble_eq_true rfl), (Nat.le_of_ble_eq_true rfl)⟩ (.inl ⟨(nI 0), rfl, rfl⟩) dX7_soonest_32
  · skip
    have c_1 := b_nle (by omega) (by omega) c_1
    refine lv_bipush (v := (-4)) hx hb dX7_soonest_11 (by decide +kernel) ?_
    exact g_iret (Qr := (q_x_soonestA T o n0 s0 im iz rw t0 u0 h0 y0 nn nm nl no nu n1 n2 n3 n4 n5 n6 n7 n8 n9 n10 nf1 nf2 nf3 nf4 nf5 nf6 nf7 nf9)) hC V ⟨(Nat.le_of_ble_eq_true rfl), (Nat.le_of_ble_eq_true rfl)⟩ (.inl ⟨(-4), rfl, rfl⟩) dX7_soonest_13
