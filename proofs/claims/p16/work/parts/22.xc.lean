theorem pred_bd40 {n : Nat} {z : Int32} (hn : n ≤ 40) (h1 : ¬ z < nI 0) (h2 : ¬ nI n - nI 1 < z) : bd z n := by
  by_cases h0 : n = 0
  · subst h0
    exfalso
    have e : nI 0 - nI 1 = -1 := by decide +kernel
    rw [e] at h2
    rw [Int32.lt_iff_toInt_lt] at h1 h2
    have a1 : (nI 0).toInt = 0 := by decide +kernel
    have a2 : (-1 : Int32).toInt = -1 := by decide +kernel
    omega
  · rw [nI_sub (by omega)] at h2
    obtain ⟨j, hj1, hj2, e⟩ := g_rng (by decide) (by omega) h1 h2
    exact ⟨j, by omega, e⟩

def q_x_doneBySwapped (T : Nat → ClassId) (o : Nat) (cn : Nat) (i : Nat) (j : Nat) (n0 : Nat) (s0 : Nat) (im : Nat) (iz : Nat) (rw : Nat) (t0 : Nat) (u0 : Nat) (h0 : Nat) (y0 : Nat) (sv : Value) (nn : Nat) (nm : Int32) (nl : Int32) (no : Int32) (nu : Int32) (n1 : Nat) (n2 : Nat) (n3 : Nat) (n4 : Nat) (n5 : Nat) (n6 : Nat) (n7 : Nat) (n8 : Nat) (n9 : Nat) (n10 : Nat) (nf1 : Nat → Int32) (nf2 : Nat → Int32) (nf3 : Nat → Int32) (nf4 : Nat → Int32) (nf5 : Nat → Int32) (nf6 : Nat → Int32) (nf7 : Nat → Int32) (nf8 : Nat → Int32) (nf9 : Nat → Int32) (sn : Int32) (sm : Int32) (sl : Int32) (so : Int32) (su : Int32) (s1 : Nat) (s2 : Nat) (s3 : Nat) (s4 : Nat) (s5 : Nat) (s6 : Nat) (s7 : Nat) (s8 : Nat) (s9 : Nat) (s10 : Nat) (sf1 : Nat → Int32) (sf2 : Nat → Int32) (sf3 : Nat → Int32) (sf4 : Nat → Int32) (sf5 : Nat → Int32) (sf6 : Nat → Int32) (sf7 : Nat → Int32) (sf8 : Nat → Int32) (sf9 : Nat → Int32) (sf10 : Nat → Int32) : Option Value → va_W → Prop := fun rr ww => (∃ (z : Int32) (xm : Int32) (xl : Int32) (xo : Int32) (xu : Int32) (q1 : Nat → Int32) (q2 : Nat → Int32) (q3 : Nat → Int32) (q4 : Nat → Int32) (q5 : Nat → Int32) (q6 : Nat → Int32) (q7 : Nat → Int32) (q8 : Nat → Int32) (q9 : Nat → Int32) (q10 : Nat → Int32), rr = some (.int z) ∧ ww = [(o, .inr (7, [.ref n0, .ref s0, .ref im, .ref iz, .ref rw, .ref t0, .ref u0, .ref h0, .ref y0, sv])), (n0, .inr (5, [.int (nI nn), .int nm, .int nl, .int no, .int nu, .ref n1, .ref n2, .ref n3, .ref n4, .ref n5, .ref n6, .ref n7, .ref n8, .ref n9, .ref n10])), (n1, .inl (T 0, 10, .inl nf1)), (n2, .inl (T 0, 10, .inl nf2)), (n3, .inl (T 0, 10, .inl nf3)), (n4, .inl (T 0, 10, .inl nf4)), (n5, .inl (T 0, 10, .inl nf5)), (n6, .inl (T 0, 10, .inl nf6)), (n7, .inl (T 0, 10, .inl nf7)), (n8, .inl (T 0, 10, .inl nf8)), (n9, .inl (T 0, 10, .inl nf9)), (s0, .inr (5, [.int (nI nn), .int xm, .int xl, .int xo, .int xu, .ref s1, .ref s2, .ref s3, .ref s4, .ref s5, .ref s6, .ref s7, .ref s8, .ref s9, .ref s10])), (s1, .inl (T 0, 10, .inl q1)), (s2, .inl (T 0, 10, .inl q2)), (s3, .inl (T 0, 10, .inl q3)), (s4, .inl (T 0, 10, .inl q4)), (s5, .inl (T 0, 10, .inl q5)), (s6, .inl (T 0, 10, .inl q6)), (s7, .inl (T 0, 10, .inl q7)), (s8, .inl (T 0, 10, .inl q8)), (s9, .inl (T 0, 10, .inl q9)), (s10, .inl (T 0, 10, .inl q10))])
set_option maxHeartbeats 4000000 in
set_option maxRecDepth 100000 in
theorem x_doneBySwapped (l : Launch) (D : va_G) (T : Nat → ClassId) (o : Nat) (cn : Nat) (i : Nat) (j : Nat) (n0 : Nat) (s0 : Nat) (im : Nat) (iz : Nat) (rw : Nat) (t0 : Nat) (u0 : Nat) (h0 : Nat) (y0 : Nat) (sv : Value) (nn : Nat) (nm : Int32) (nl : Int32) (no : Int32) (nu : Int32) (n1 : Nat) (n2 : Nat) (n3 : Nat) (n4 : Nat) (n5 : Nat) (n6 : Nat) (n7 : Nat) (n8 : Nat) (n9 : Nat) (n10 : Nat) (nf1 : Nat → Int32) (nf2 : Nat → Int32) (nf3 : Nat → Int32) (nf4 : Nat → Int32) (nf5 : Nat → Int32) (nf6 : Nat → Int32) (nf7 : Nat → Int32) (nf8 : Nat → Int32) (nf9 : Nat → Int32) (sn : Int32) (sm : Int32) (sl : Int32) (so : Int32) (su : Int32) (s1 : Nat) (s2 : Nat) (s3 : Nat) (s4 : Nat) (s5 : Nat) (s6 : Nat) (s7 : Nat) (s8 : Nat) (s9 : Nat) (s10 : Nat) (sf1 : Nat → Int32) (sf2 : Nat → Int32) (sf3 : Nat → Int32) (sf4 : Nat → Int32) (sf5 : Nat → Int32) (sf6 : Nat → Int32) (sf7 : Nat → Int32) (sf8 : Nat → Int32) (sf9 : Nat → Int32) (sf10 : Nat → Int32) (h_n : nn ≤ 10) (h_t : ∀ i, i < nn → bd (nf9 i) nn) (h_c : cn ≤ 1000) (h_i : i < nn) (h_j : j < nn) : Ct l yX7_doneBySwapped cX7_doneBySwapped 4 (some .int) 5 0 0 D T [.ref o, .int (nI cn), .int (nI i), .int (nI j)] [(o, .inr (7, [.ref n0, .ref s0, .ref im, .ref iz, .ref rw, .ref t0, .ref u0, .ref h0, .ref y0, sv])), (n0, .inr (5, [.int (nI nn), .int nm, .int nl, .int no, .int nu, .ref n1, .ref n2, .ref n3, .ref n4, .ref n5, .ref n6, .ref n7, .ref n8, .ref n9, .ref n10])), (n1, .inl (T 0, 10, .inl nf1)), (n2, .inl (T 0, 10, .inl nf2)), (n3, .inl (T 0, 10, .inl nf3)), (n4, .inl (T 0, 10, .inl nf4)), (n5, .inl (T 0, 10, .inl nf5)), (n6, .inl (T 0, 10, .inl nf6)), (n7, .inl (T 0, 10, .inl nf7)), (n8, .inl (T 0, 10, .inl nf8)), (n9, .inl (T 0, 10, .inl nf9)), (s0, .inr (5, [.int sn, .int sm, .int sl, .int so, .int su, .ref s1, .ref s2, .ref s3, .ref s4, .ref s5, .ref s6, .ref s7, .ref s8, .ref s9, .ref s10])), (s1, .inl (T 0, 10, .inl sf1)), (s2, .inl (T 0, 10, .inl sf2)), (s3, .inl (T 0, 10, .inl sf3)), (s4, .inl (T 0, 10, .inl sf4)), (s5, .inl (T 0, 10, .inl sf5)), (s6, .inl (T 0, 10, .inl sf6)), (s7, .inl (T 0, 10, .inl sf7)), (s8, .inl (T 0, 10, .inl sf8)), (s9, .inl (T 0, 10, .inl sf9)), (s10, .inl (T 0, 10, .inl sf10))] (q_x_doneBySwapped T o cn i j n0 s0 im iz rw t0 u0 h0 y0 sv nn nm nl no nu n1 n2 n3 n4 n5 n6 n7 n8 n9 n10 nf1 nf2 nf3 nf4 nf5 nf6 nf7 nf8 nf9 sn sm sl so su s1 s2 s3 s4 s5 s6 s7 s8 s9 s10 sf1 sf2 sf3 sf4 sf5 sf6 sf7 sf8 sf9 sf10) := by
  refine Ct.of (cc := cX7_doneBySwapped) (maxL := 4) (ret := (some .int)) (by decide) (Nat.le_of_ble_eq_true rfl) ?_
  intro p e s m args below meth c A ls hC hnm V hl
  obtain ⟨hx, hb, hr, hml, hown, hts, hlocks⟩ := id hC
  generalize hH : s.heap = H at V ⊢
  clear hH
  have hl : lv_has ls 4 [(0, .ref o), (1, .int (nI cn)), (2, .int (nI i)), (3, .int (nI j))] := hl
  generalize hlo : ([] : List Loc) = locs at V ⊢
  clear hlo
  refine lv_aload_n hx hb dX7_doneBySwapped_0 rfl (lv_at hl 0 rfl) ?_
  refine g_get hC V (ci := 7) uwX7 0 rfl rfl 1 (by decide) w_250 rfl rfl dX7_doneBySwapped_1 ?_
  refine lv_aload_n hx hb dX7_doneBySwapped_4 rfl (lv_at hl 0 rfl) ?_
  refine g_get hC V (ci := 7) uwX7 0 rfl rfl 0 (by decide) w_249 rfl rfl dX7_doneBySwapped_5 ?_
  refine g_callVU (nA := 1) hC V hl.1 (s_takeFrom l D T s0 n0 sn sm sl so su s1 s2 s3 s4 s5 s6 s7 s8 s9 s10 sf1 sf2 sf3 sf4 sf5 sf6 sf7 sf8 sf9 nn nm nl no nu n1 n2 n3 n4 n5 n6 n7 n8 n9 n10 nf1 nf2 nf3 nf4 nf5 nf6 nf7 nf8 nf9 (by first | assumption | omega)) w_413 w_414 w_415 w_3 w_416 (by decide +kernel) rfl ⟨(Nat.le_of_ble_eq_true rfl), (Nat.le_of_ble_eq_true rfl)⟩ 11 (ci := 5) rfl rfl [11, 12, 13, 14, 15, 16, 17, 18, 19, 20, 1, 2, 3, 4, 5, 6, 7, 8, 9, 10] rfl rfl (Nat.le_of_ble_eq_true rfl) dX7_doneBySwapped_8 ⟨(Nat.le_of_ble_eq_true rfl), (Nat.le_of_ble_eq_true rfl)⟩ rfl (fun r w1 H locs hQ V => ?_)
  obtain ⟨p1, p2, p3, p4, p5, p6, p7, p8, p9, rfl, rfl, f_1, f_2, f_3, f_4, f_5, f_6, f_7, f_8, f_9⟩ := hQ
  have V : gW D T A s [(o, .inr (7, [.ref n0, .ref s0, .ref im, .ref iz, .ref rw, .ref t0, .ref u0, .ref h0, .ref y0, sv])), (n0, .inr (5, [.int (nI nn), .int nm, .int nl, .int no, .int nu, .ref n1, .ref n2, .ref n3, .ref n4, .ref n5, .ref n6, .ref n7, .ref n8, .ref n9, .ref n10])), (n1, .inl (T 0, 10, .inl nf1)), (n2, .inl (T 0, 10, .inl nf2)), (n3, .inl (T 0, 10, .inl nf3)), (n4, .inl (T 0, 10, .inl nf4)), (n5, .inl (T 0, 10, .inl nf5)), (n6, .inl (T 0, 10, .inl nf6)), (n7, .inl (T 0, 10, .inl nf7)), (n8, .inl (T 0, 10, .inl nf8)), (n9, .inl (T 0, 10, .inl nf9)), (s0, .inr (5, [.int (nI nn), .int nm, .int nl, .int no, .int nu, .ref s1, .ref s2, .ref s3, .ref s4, .ref s5, .ref s6, .ref s7, .ref s8, .ref s9, .ref s10])), (s1, .inl (T 0, 10, .inl p1)), (s2, .inl (T 0, 10, .inl p2)), (s3, .inl (T 0, 10, .inl p3)), (s4, .inl (T 0, 10, .inl p4)), (s5, .inl (T 0, 10, .inl p5)), (s6, .inl (T 0, 10, .inl p6)), (s7, .inl (T 0, 10, .inl p7)), (s8, .inl (T 0, 10, .inl p8)), (s9, .inl (T 0, 10, .inl p9)), (s10, .inl (T 0, 10, .inl sf10))] H locs := V _ [1, 0, 0, 0, 0, 0, 0, 0, 0, 0, 0, 0, 0, 0, 0, 0, 0, 0, 0, 0] rfl rfl rfl (by decide +kernel) rfl
  show W p l e _ s m args below meth c H locs _ _ _ (F0 m 11 ls [])
  have hp9 : ∀ i, i < nn → bd (p9 i) nn := fun i h => by rw [f_9 i h]; exact h_t i h
  refine lv_aload_n hx hb dX7_doneBySwapped_11 rfl (lv_at hl 0 rfl) ?_
  refine g_get hC V (ci := 7) uwX7 0 rfl rfl 1 (by decide) w_250 rfl rfl dX7_doneBySwapped_12 ?_
  refine g_get hC V (ci := 5) uwX5 11 rfl rfl 5 (by decide) w_54 rfl rfl dX7_doneBySwapped_15 ?_
  refine lv_iload_n hx hb dX7_doneBySwapped_18 rfl (lv_at hl 2 rfl) ?_
  refine lv_aload_n hx hb dX7_doneBySwapped_19 rfl (lv_at hl 0 rfl) ?_
  refine g_get hC V (ci := 7) uwX7 0 rfl rfl 0 (by decide) w_249 rfl rfl dX7_doneBySwapped_20 ?_
  refine g_get hC V (ci := 5) uwX5 1 rfl rfl 5 (by decide) w_54 rfl rfl dX7_doneBySwapped_23 ?_
  refine lv_iload_n hx hb dX7_doneBySwapped_26 rfl (lv_at hl 3 rfl) ?_
  refine g_iald hC V 2 rfl (vp_in_nI (by omega) (by omega)) (v := (nf1 j)) (congrArg _ (nI_clamp (by omega))) dX7_doneBySwapped_27 ?_
  refine g_iast hC V 12 rfl (vp_in_nI (by omega) (by omega)) (f' := (upd p1 i (nf1 j))) (by rw [nI_clamp (by omega)]) (ws' := [(o, .inr (7, [.ref n0, .ref s0, .ref im, .ref iz, .ref rw, .ref t0, .ref u0, .ref h0, .ref y0, sv])), (n0, .inr (5, [.int (nI nn), .int nm, .int nl, .int no, .int nu, .ref n1, .ref n2, .ref n3, .ref n4, .ref n5, .ref n6, .ref n7, .ref n8, .ref n9, .ref n10])), (n1, .inl (T 0, 10, .inl nf1)), (n2, .inl (T 0, 10, .inl nf2)), (n3, .inl (T 0, 10, .inl nf3)), (n4, .inl (T 0, 10, .inl nf4)), (n5, .inl (T 0, 10, .inl nf5)), (n6, .inl (T 0, 10, .inl nf6)), (n7, .inl (T 0, 10, .inl nf7)), (n8, .inl (T 0, 10, .inl nf8)), (n9, .inl (T 0, 10, .inl nf9)), (s0, .inr (5, [.int (nI nn), .int nm, .int nl, .int no, .int nu, .ref s1, .ref s2, .ref s3, .ref s4, .ref s5, .ref s6, .ref s7, .ref s8, .ref s9, .ref s10])), (s1, .inl (T 0, 10, .inl (upd p1 i (nf1 j)))), (s2, .inl (T 0, 10, .inl p2)), (s3, .inl (T 0, 10, .inl p3)), (s4, .inl (T 0, 10, .inl p4)), (s5, .inl (T 0, 10, .inl p5)), (s6, .inl (T 0, 10, .inl p6)), (s7, .inl (T 0, 10, .inl p7)), (s8, .inl (T 0, 10, .inl p8)), (s9, .inl (T 0, 10, .inl p9)), (s10, .inl (T 0, 10, .inl sf10))]) rfl dX7_doneBySwapped_28 (fun H locs V => ?_)
  refine lv_aload_n hx hb dX7_doneBySwapped_29 rfl (lv_at hl 0 rfl) ?_
  refine g_get hC V (ci := 7) uwX7 0 rfl rfl 1 (by decide) w_250 rfl rfl dX7_doneBySwapped_30 ?_
  refine g_get hC V (ci := 5) uwX5 11 rfl rfl 5 (by decide) w_54 rfl rfl dX7_doneBySwapped_33 ?_
  refine lv_iload_n hx hb dX7_doneBySwapped_36 rfl (lv_at hl 3 rfl) ?_
  refine lv_aload_n hx hb dX7_doneBySwapped_37 rfl (lv_at hl 0 rfl) ?_
  refine g_get hC V (ci := 7) uwX7 0 rfl rfl 0 (by decide) w_249 rfl rfl dX7_doneBySwapped_38 ?_
  refine g_get hC V (ci := 5) uwX5 1 rfl rfl 5 (by decide) w_54 rfl rfl dX7_doneBySwapped_41 ?_
  refine lv_iload_n hx hb dX7_doneBySwapped_44 rfl (lv_at hl 2 rfl) ?_
  refine g_iald hC V 2 rfl (vp_in_nI (by omega) (by omega)) (v := (nf1 i)) (congrArg _ (nI_clamp (by omega))) dX7_doneBySwapped_45 ?_
  refine g_iast hC V 12 rfl (vp_in_nI (by omega) (by omega)) (f' := (upd (upd p1 i (nf1 j)) j (nf1 i))) (by rw [nI_clamp (by omega)]) (ws' := [(o, .inr (7, [.ref n0, .ref s0, .ref im, .ref iz, .ref rw, .ref t0, .ref u0, .ref h0, .ref y0, sv])), (n0, .inr (5, [.int (nI nn), .int nm, .int nl, .int no, .int nu, .ref n1, .ref n2, .ref n3, .ref n4, .ref n5, .ref n6, .ref n7, .ref n8, .ref n9, .ref n10])), (n1, .inl (T 0, 10, .inl nf1)), (n2, .inl (T 0, 10, .inl nf2)), (n3, .inl (T 0, 10, .inl nf3)), (n4, .inl (T 0, 10, .inl nf4)), (n5, .inl (T 0, 10, .inl nf5)), (n6, .inl (T 0, 10, .inl nf6)), (n7, .inl (T 0, 10, .inl nf7)), (n8, .inl (T 0, 10, .inl nf8)), (n9, .inl (T 0, 10, .inl nf9)), (s0, .inr (5, [.int (nI nn), .int nm, .int nl, .int no, .int nu, .ref s1, .ref s2, .ref s3, .ref s4, .ref s5, .ref s6, .ref s7, .ref s8, .ref s9, .ref s10])), (s1, .inl (T 0, 10, .inl (upd (upd p1 i (nf1 j)) j (nf1 i)))), (s2, .inl (T 0, 10, .inl p2)), (s3, .inl (T 0, 10, .inl p3)), (s4, .inl (T 0, 10, .inl p4)), (s5, .inl (T 0, 10, .inl p5)), (s6, .inl (T 0, 10, .inl p6)), (s7, .inl (T 0, 10, .inl p7)), (s8, .inl (T 0, 10, .inl p8)), (s9, .inl (T 0, 10, .inl p9)), (s10, .inl (T 0, 10, .inl sf10))]) rfl dX7_doneBySwapped_46 (fun H locs V => ?_)
  refine lv_aload_n hx hb dX7_doneBySwapped_47 rfl (lv_at hl 0 rfl) ?_
  refine g_get hC V (ci := 7) uwX7 0 rfl rfl 1 (by decide) w_250 rfl rfl dX7_doneBySwapped_48 ?_
  refine lv_iload_n hx hb dX7_doneBySwapped_51 rfl (lv_at hl 1 rfl) ?_
  refine lv_iconst (v := (nI 0)) hx hb dX7_doneBySwapped_52 (by decide +kernel) ?_
  refine lv_iconst (v := (-1)) hx hb dX7_doneBySwapped_53 (by decide +kernel) ?_
  refine lv_iconst (v := (nI 0)) hx hb dX7_doneBySwapped_54 (by decide +kernel) ?_
  refine g_callVU (nA := 4) hC V hl.1 (s_passAll l D T s0 cn (nI 0) (-1) (nI 0) nn nm nl no nu s1 s2 s3 s4 s5 s6 s7 s8 s9 s10 (upd (upd p1 i (nf1 j)) j (nf1 i)) p2 p3 p4 p5 p6 p7 p8 p9 sf10 (by first | assumption | omega) hp9 (by first | assumption | omega)) w_540 w_541 w_542 w_3 w_543 (by decide +kernel) rfl ⟨(Nat.le_of_ble_eq_true rfl), (Nat.le_of_ble_eq_true rfl)⟩ 11 (ci := 5) rfl rfl [11, 12, 13, 14, 15, 16, 17, 18, 19, 20, 21] rfl rfl (Nat.le_of_ble_eq_true rfl) dX7_doneBySwapped_55 ⟨(Nat.le_of_ble_eq_true rfl), (Nat.le_of_ble_eq_true rfl)⟩ rfl (fun r w1 H locs hQ V => ?_)
  obtain ⟨z_10, u_11, mm_12, g3_13, g7_14, g8_15, g10_16, rfl, rfl⟩ := hQ
  have V : gW D T A s [(o, .inr (7, [.ref n0, .ref s0, .ref im, .ref iz, .ref rw, .ref t0, .ref u0, .ref h0, .ref y0, sv])), (n0, .inr (5, [.int (nI nn), .int nm, .int nl, .int no, .int nu, .ref n1, .ref n2, .ref n3, .ref n4, .ref n5, .ref n6, .ref n7, .ref n8, .ref n9, .ref n10])), (n1, .inl (T 0, 10, .inl nf1)), (n2, .inl (T 0, 10, .inl nf2)), (n3, .inl (T 0, 10, .inl nf3)), (n4, .inl (T 0, 10, .inl nf4)), (n5, .inl (T 0, 10, .inl nf5)), (n6, .inl (T 0, 10, .inl nf6)), (n7, .inl (T 0, 10, .inl nf7)), (n8, .inl (T 0, 10, .inl nf8)), (n9, .inl (T 0, 10, .inl nf9)), (s0, .inr (5, [.int (nI nn), .int mm_12, .int nl, .int no, .int u_11, .ref s1, .ref s2, .ref s3, .ref s4, .ref s5, .ref s6, .ref s7, .ref s8, .ref s9, .ref s10])), (s1, .inl (T 0, 10, .inl (upd (upd p1 i (nf1 j)) j (nf1 i)))), (s2, .inl (T 0, 10, .inl p2)), (s3, .inl (T 0, 10, .inl g3_13)), (s4, .inl (T 0, 10, .inl p4)), (s5, .inl (T 0, 10, .inl p5)), (s6, .inl (T 0, 10, .inl p6)), (s7, .inl (T 0, 10, .inl g7_14)), (s8, .inl (T 0, 10, .inl g8_15)), (s9, .inl (T 0, 10, .inl p9)), (s10, .inl (T 0, 10, .inl g10_16))] H locs := V _ [11, 0, 0, 0, 0, 0, 0, 0, 0, 0, 0] rfl rfl rfl (by decide +kernel) rfl
  show W p l e _ s m args below meth c H locs _ _ _ (F0 m 58 ls [.int z_10])
  refine lv_pop hx hb dX7_doneBySwapped_58 rfl ?_
  refine lv_aload_n hx hb dX7_doneBySwapped_59 rfl (lv_at hl 0 rfl) ?_
  refine g_get hC V (ci := 7) uwX7 0 rfl rfl 1 (by decide) w_250 rfl rfl dX7_doneBySwapped_60 ?_
  refine g_callVU (nA := 0) hC V hl.1 (s_piecesDone l D T s0 nn mm_12 nl no u_11 s1 s2 s3 s4 s5 s6 s7 s8 s9 s10 p6 g7_14 (by first | assumption | omega)) w_516 w_517 w_518 w_3 w_519 (by decide +kernel) rfl ⟨(Nat.le_of_ble_eq_true rfl), (Nat.le_of_ble_eq_true rfl)⟩ 11 (ci := 5) rfl rfl [11, 17, 18] rfl rfl (Nat.le_of_ble_eq_true rfl) dX7_doneBySwapped_63 ⟨(Nat.le_of_ble_eq_true rfl), (Nat.le_of_ble_eq_true rfl)⟩ rfl (fun r w1 H locs hQ V => ?_)
  obtain ⟨z_17, rfl, rfl⟩ := hQ
  have V : gW D T A s [(o, .inr (7, [.ref n0, .ref s0, .ref im, .ref iz, .ref rw, .ref t0, .ref u0, .ref h0, .ref y0, sv])), (n0, .inr (5, [.int (nI nn), .int nm, .int nl, .int no, .int nu, .ref n1, .ref n2, .ref n3, .ref n4, .ref n5, .ref n6, .ref n7, .ref n8, .ref n9, .ref n10])), (n1, .inl (T 0, 10, .inl nf1)), (n2, .inl (T 0, 10, .inl nf2)), (n3, .inl (T 0, 10, .inl nf3)), (n4, .inl (T 0, 10, .inl nf4)), (n5, .inl (T 0, 10, .inl nf5)), (n6, .inl (T 0, 10, .inl nf6)), (n7, .inl (T 0, 10, .inl nf7)), (n8, .inl (T 0, 10, .inl nf8)), (n9, .inl (T 0, 10, .inl nf9)), (s0, .inr (5, [.int (nI nn), .int mm_12, .int nl, .int no, .int u_11, .ref s1, .ref s2, .ref s3, .ref s4, .ref s5, .ref s6, .ref s7, .ref s8, .ref s9, .ref s10])), (s1, .inl (T 0, 10, .inl (upd (upd p1 i (nf1 j)) j (nf1 i)))), (s2, .inl (T 0, 10, .inl p2)), (s3, .inl (T 0, 10, .inl g3_13)), (s4, .inl (T 0, 10, .inl p4)), (s5, .inl (T 0, 10, .inl p5)), (s6, .inl (T 0, 10, .inl p6)), (s7, .inl (T 0, 10, .inl g7_14)), (s8, .inl (T 0, 10, .inl g8_15)), (s9, .inl (T 0, 10, .inl p9)), (s10, .inl (T 0, 10, .inl g10_16))] H locs := V _ [11, 5, 0] rfl rfl rfl (by decide +kernel) rfl
  show W p l e _ s m args below meth c H locs _ _ _ (F0 m 66 ls [.int z_17])
  exact g_iret (Qr := (q_x_doneBySwapped T o cn i j n0 s0 im iz rw t0 u0 h0 y0 sv nn nm nl no nu n1 n2 n3 n4 n5 n6 n7 n8 n9 n10 nf1 nf2 nf3 nf4 nf5 nf6 nf7 nf8 nf9 sn sm sl so su s1 s2 s3 s4 s5 s6 s7 s8 s9 s10 sf1 sf2 sf3 sf4 sf5 sf6 sf7 sf8 sf9 sf10)) hC V ⟨(Nat.le_of_ble_eq_true rfl), (Nat.le_of_ble_eq_true rfl)⟩ ⟨z_17, mm_12, nl, no, u_11, (upd (upd p1 i (nf1 j)) j (nf1 i)), p2, g3_13, p4, p5, p6, g7_14, g8_15, p9, g10_16, rfl, rfl⟩ dX7_doneBySwapped_66

def q_x_swapped (T : Nat → ClassId) (o : Nat) (n : Int32) (wh : Int32) (n0 : Nat) (s0 : Nat) (im : Nat) (iz : Nat) (rw : Nat) (t0 : Nat) (u0 : Nat) (h0 : Nat) (y0 : Nat) (sv : Value) (nn : Nat) (nm : Int32) (nl : Int32) (no : Int32) (nu : Int32) (n1 : Nat) (n2 : Nat) (n3 : Nat) (n4 : Nat) (n5 : Nat) (n6 : Nat) (n7 : Nat) (n8 : Nat) (n9 : Nat) (n10 : Nat) (nf1 : Nat → Int32) (nf2 : Nat → Int32) (nf3 : Nat → Int32) (nf4 : Nat → Int32) (nf5 : Nat → Int32) (nf6 : Nat → Int32) (nf7 : Nat → Int32) (nf8 : Nat → Int32) (nf9 : Nat → Int32) (sn : Int32) (sm : Int32) (sl : Int32) (so : Int32) (su : Int32) (s1 : Nat) (s2 : Nat) (s3 : Nat) (s4 : Nat) (s5 : Nat) (s6 : Nat) (s7 : Nat) (s8 : Nat) (s9 : Nat) (s10 : Nat) (sf1 : Nat → Int32) (sf2 : Nat → Int32) (sf3 : Nat → Int32) (sf4 : Nat → Int32) (sf5 : Nat → Int32) (sf6 : Nat → Int32) (sf7 : Nat → Int32) (sf8 : Nat → Int32) (sf9 : Nat → Int32) (sf10 : Nat → Int32) : Option Value → va_W → Prop := fun rr ww => (∃ (z : Int32) (xn : Int32) (xm : Int32) (xl : Int32) (xo : Int32) (xu : Int32) (q1 : Nat → Int32) (q2 : Nat → Int32) (q3 : Nat → Int32) (q4 : Nat → Int32) (q5 : Nat → Int32) (q6 : Nat → Int32) (q7 : Nat → Int32) (q8 : Nat → Int32) (q9 : Nat → Int32) (q10 : Nat → Int32), rr = some (.int z) ∧ ww = [(o, .inr (7, [.ref n0, .ref s0, .ref im, .ref iz, .ref rw, .ref t0, .ref u0, .ref h0, .ref y0, sv])), (n0, .inr (5, [.int (nI nn), .int nm, .int nl, .int no, .int nu, .ref n1, .ref n2, .ref n3, .ref n4, .ref n5, .ref n6, .ref n7, .ref n8, .ref n9, .ref n10])), (n1, .inl (T 0, 10, .inl nf1)), (n2, .inl (T 0, 10, .inl nf2)), (n3, .inl (T 0, 10, .inl nf3)), (n4, .inl (T 0, 10, .inl nf4)), (n5, .inl (T 0, 10, .inl nf5)), (n6, .inl (T 0, 10, .inl nf6)), (n7, .inl (T 0, 10, .inl nf7)), (n8, .inl (T 0, 10, .inl nf8)), (n9, .inl (T 0, 10, .inl nf9)), (s0, .inr (5, [.int xn, .int xm, .int xl, .int xo, .int xu, .ref s1, .ref s2, .ref s3, .ref s4, .ref s5, .ref s6, .ref s7, .ref s8, .ref s9, .ref s10])), (s1, .inl (T 0, 10, .inl q1)), (s2, .inl (T 0, 10, .inl q2)), (s3, .inl (T 0, 10, .inl q3)), (s4, .inl (T 0, 10, .inl q4)), (s5, .inl (T 0, 10, .inl q5)), (s6, .inl (T 0, 10, .inl q6)), (s7, .inl (T 0, 10, .inl q7)), (s8, .inl (T 0, 10, .inl q8)), (s9, .inl (T 0, 10, .inl q9)), (s10, .inl (T 0, 10, .inl q10))])
set_option maxHeartbeats 4000000 in
set_option maxRecDepth 100000 in
theorem x_swapped (l : Launch) (D : va_G) (T : Nat → ClassId) (o : Nat) (n : Int32) (wh : Int32) (n0 : Nat) (s0 : Nat) (im : Nat) (iz : Nat) (rw : Nat) (t0 : Nat) (u0 : Nat) (h0 : Nat) (y0 : Nat) (sv : Value) (nn : Nat) (nm : Int32) (nl : Int32) (no : Int32) (nu : Int32) (n1 : Nat) (n2 : Nat) (n3 : Nat) (n4 : Nat) (n5 : Nat) (n6 : Nat) (n7 : Nat) (n8 : Nat) (n9 : Nat) (n10 : Nat) (nf1 : Nat → Int32) (nf2 : Nat → Int32) (nf3 : Nat → Int32) (nf4 : Nat → Int32) (nf5 : Nat → Int32) (nf6 : Nat → Int32) (nf7 : Nat → Int32) (nf8 : Nat → Int32) (nf9 : Nat → Int32) (sn : Int32) (sm : Int32) (sl : Int32) (so : Int32) (su : Int32) (s1 : Nat) (s2 : Nat) (s3 : Nat) (s4 : Nat) (s5 : Nat) (s6 : Nat) (s7 : Nat) (s8 : Nat) (s9 : Nat) (s10 : Nat) (sf1 : Nat → Int32) (sf2 : Nat → Int32) (sf3 : Nat → Int32) (sf4 : Nat → Int32) (sf5 : Nat → Int32) (sf6 : Nat → Int32) (sf7 : Nat → Int32) (sf8 : Nat → Int32) (sf9 : Nat → Int32) (sf10 : Nat → Int32) (h_n : nn ≤ 10) (h_t : ∀ i, i < nn → bd (nf9 i) nn) : Ct l yX7_swapped cX7_swapped 10 (some .int) 6 0 0 D T [.ref o, .int n, .int wh] [(o, .inr (7, [.ref n0, .ref s0, .ref im, .ref iz, .ref rw, .ref t0, .ref u0, .ref h0, .ref y0, sv])), (n0, .inr (5, [.int (nI nn), .int nm, .int nl, .int no, .int nu, .ref n1, .ref n2, .ref n3, .ref n4, .ref n5, .ref n6, .ref n7, .ref n8, .ref n9, .ref n10])), (n1, .inl (T 0, 10, .inl nf1)), (n2, .inl (T 0, 10, .inl nf2)), (n3, .inl (T 0, 10, .inl nf3)), (n4, .inl (T 0, 10, .inl nf4)), (n5, .inl (T 0, 10, .inl nf5)), (n6, .inl (T 0, 10, .inl nf6)), (n7, .inl (T 0, 10, .inl nf7)), (n8, .inl (T 0, 10, .inl nf8)), (n9, .inl (T 0, 10, .inl nf9)), (s0, .inr (5, [.int sn, .int sm, .int sl, .int so, .int su, .ref s1, .ref s2, .ref s3, .ref s4, .ref s5, .ref s6, .ref s7, .ref s8, .ref s9, .ref s10])), (s1, .inl (T 0, 10, .inl sf1)), (s2, .inl (T 0, 10, .inl sf2)), (s3, .inl (T 0, 10, .inl sf3)), (s4, .inl (T 0, 10, .inl sf4)), (s5, .inl (T 0, 10, .inl sf5)), (s6, .inl (T 0, 10, .inl sf6)), (s7, .inl (T 0, 10, .inl sf7)), (s8, .inl (T 0, 10, .inl sf8)), (s9, .inl (T 0, 10, .inl sf9)), (s10, .inl (T 0, 10, .inl sf10))] (q_x_swapped T o n wh n0 s0 im iz rw t0 u0 h0 y0 sv nn nm nl no nu n1 n2 n3 n4 n5 n6 n7 n8 n9 n10 nf1 nf2 nf3 nf4 nf5 nf6 nf7 nf8 nf9 sn sm sl so su s1 s2 s3 s4 s5 s6 s7 s8 s9 s10 sf1 sf2 sf3 sf4 sf5 sf6 sf7 sf8 sf9 sf10) := by
  refine Ct.of (cc := cX7_swapped) (maxL := 10) (ret := (some .int)) (by decide) (Nat.le_of_ble_eq_true rfl) ?_
  intro p e s m args below meth c A ls hC hnm V hl
  obtain ⟨hx, hb, hr, hml, hown, hts, hlocks⟩ := id hC
  generalize hH : s.heap = H at V ⊢
  clear hH
  have hl : lv_has ls 10 [(0, .ref o), (1, .int n), (2, .int wh)] := hl
  generalize hlo : ([] : List Loc) = locs at V ⊢
  clear hlo
  refine lv_iload_n hx hb dX7_swapped_0 rfl (lv_at hl 2 rfl) ?_
  refine lv_iconst (v := (nI 0)) hx hb dX7_swapped_1 (by decide +kernel) ?_
  refine lv_iconst (v := (nI 1)) hx hb dX7_swapped_2 (by decide +kernel) ?_
  refine g_callSU (nA := 3) hC V hl.1 (c_isWithin l D T wh (nI 0) (nI 1)) w_292 w_293 w_2 w_294 (by decide +kernel) rfl ⟨(Nat.le_of_ble_eq_true rfl), (Nat.le_of_ble_eq_true rfl)⟩ [] rfl rfl (Nat.le_of_ble_eq_true rfl) dX7_swapped_3 ⟨(Nat.le_of_ble_eq_true rfl), (Nat.le_of_ble_eq_true rfl)⟩ rfl (fun r w1 H locs hQ V => ?_)
  rcases hQ with ⟨rfl, rfl, f_1, f_2⟩ | ⟨rfl, rfl, f_3⟩
  · have V : gW D T A s [(o, .inr (7, [.ref n0, .ref s0, .ref im, .ref iz, .ref rw, .ref t0, .ref u0, .ref h0, .ref y0, sv])), (n0, .inr (5, [.int (nI nn), .int nm, .int nl, .int no, .int nu, .ref n1, .ref n2, .ref n3, .ref n4, .ref n5, .ref n6, .ref n7, .ref n8, .ref n9, .ref n10])), (n1, .inl (T 0, 10, .inl nf1)), (n2, .inl (T 0, 10, .inl nf2)), (n3, .inl (T 0, 10, .inl nf3)), (n4, .inl (T 0, 10, .inl nf4)), (n5, .inl (T 0, 10, .inl nf5)), (n6, .inl (T 0, 10, .inl nf6)), (n7, .inl (T 0, 10, .inl nf7)), (n8, .inl (T 0, 10, .inl nf8)), (n9, .inl (T 0, 10, .inl nf9)), (s0, .inr (5, [.int sn, .int sm, .int sl, .int so, .int su, .ref s1, .ref s2, .ref s3, .ref s4, .ref s5, .ref s6, .ref s7, .ref s8, .ref s9, .ref s10])), (s1, .inl (T 0, 10, .inl sf1)), (s2, .inl (T 0, 10, .inl sf2)), (s3, .inl (T 0, 10, .inl sf3)), (s4, .inl (T 0, 10, .inl sf4)), (s5, .inl (T 0, 10, .inl sf5)), (s6, .inl (T 0, 10, .inl sf6)), (s7, .inl (T 0, 10, .inl sf7)), (s8, .inl (T 0, 10, .inl sf8)), (s9, .inl (T 0, 10, .inl sf9)), (s10, .inl (T 0, 10, .inl sf10))] H locs := V _ [] rfl rfl rfl (by decide +kernel) rfl
    show W p l e _ s m args below meth c H locs _ _ _ (F0 m 6 ls [.int (nI 1)])
    refine lv_if_ne (tgt := 12) hx hb dX7_swapped_6 (by decide) (fun _ => ?_) (fun c => absurd (show (nI 1) = 0 from c) (by decide +kernel))
    refine lv_aload_n hx hb dX7_swapped_12 rfl (lv_at hl 0 rfl) ?_
    refine lv_iload_n hx hb dX7_swapped_13 rfl (lv_at hl 1 rfl) ?_
    refine lv_sipush (v := (nI 200)) hx hb dX7_swapped_14 (by decide +kernel) ?_
    refine g_callVU (nA := 2) hC V hl.1 (x_refusedMinutes l D T o n 200 n0 s0 im iz rw t0 u0 h0 y0 sv nn nm nl no nu n1 n2 n3 n4 n5 n6 n7 n8 n9 n10 (by first | assumption | omega)) w_532 w_534 w_s12 w_2 w_535 (by decide +kernel) rfl ⟨(Nat.le_of_ble_eq_true rfl), (Nat.le_of_ble_eq_true rfl)⟩ 0 (ci := 7) rfl rfl [0, 1] rfl rfl (Nat.le_of_ble_eq_true rfl) dX7_swapped_17 ⟨(Nat.le_of_ble_eq_true rfl), (Nat.le_of_ble_eq_true rfl)⟩ rfl (fun r w1 H locs hQ V => ?_)
    rcases hQ with ⟨jn, rfl, rfl, f_4, f_5, f_6⟩ | ⟨z_7, rfl, rfl, f_8⟩
    · have V : gW D T A s [(o, .inr (7, [.ref n0, .ref s0, .ref im, .ref iz, .ref rw, .ref t0, .ref u0, .ref h0, .ref y0, sv])), (n0, .inr (5, [.int (nI nn), .int nm, .int nl, .int no, .int nu, .ref n1, .ref n2, .ref n3, .ref n4, .ref n5, .ref n6, .ref n7, .ref n8, .ref n9, .ref n10])), (n1, .inl (T 0, 10, .inl nf1)), (n2, .inl (T 0, 10, .inl nf2)), (n3, .inl (T 0, 10, .inl nf3)), (n4, .inl (T 0, 10, .inl nf4)), (n5, .inl (T 0, 10, .inl nf5)), (n6, .inl (T 0, 10, .inl nf6)), (n7, .inl (T 0, 10, .inl nf7)), (n8, .inl (T 0, 10, .inl nf8)), (n9, .inl (T 0, 10, .inl nf9)), (s0, .inr (5, [.int sn, .int sm, .int sl, .int so, .int su, .ref s1, .ref s2, .ref s3, .ref s4, .ref s5, .ref s6, .ref s7, .ref s8, .ref s9, .ref s10])), (s1, .inl (T 0, 10, .inl sf1)), (s2, .inl (T 0, 10, .inl sf2)), (s3, .inl (T 0, 10, .inl sf3)), (s4, .inl (T 0, 10, .inl sf4)), (s5, .inl (T 0, 10, .inl sf5)), (s6, .inl (T 0, 10, .inl sf6)), (s7, .inl (T 0, 10, .inl sf7)), (s8, .inl (T 0, 10, .inl sf8)), (s9, .inl (T 0, 10, .inl sf9)), (s10, .inl (T 0, 10, .inl sf10))] H locs := V _ [0, 0] rfl rfl rfl (by decide +kernel) rfl
      show W p l e _ s m args below meth c H locs _ _ _ (F0 m 20 ls [.int (nI 0)])
      rw [f_6] at hl
      refine lv_istore_n (lv' := [(3, .int (nI 0)), (0, .ref o), (1, .int (nI jn)), (2, .int wh)]) hx hb dX7_swapped_20 rfl hl (by decide) rfl (fun ls hl => ?_)
      refine lv_iload_n hx hb dX7_swapped_21 rfl (lv_at hl 0 rfl) ?_
      refine lv_if_eq (tgt := 27) hx hb dX7_swapped_22 (by decide) (fun _ => ?_) (fun c => absurd (show (nI 0) = 0 by decide +kernel) c)
      refine lv_aload_n hx hb dX7_swapped_27 rfl (lv_at hl 1 rfl) ?_
      refine lv_iload_n hx hb dX7_swapped_28 rfl (lv_at hl 2 rfl) ?_
      refine lv_iconst (v := (nI 0)) hx hb dX7_swapped_29 (by decide +kernel) ?_
      refine lv_iconst (v := (-1)) hx hb dX7_swapped_30 (by decide +kernel) ?_
      refine lv_iconst (v := (nI 0)) hx hb dX7_swapped_31 (by decide +kernel) ?_
      refine g_callV (wr := []) (nA := 4) hC V hl.1 (x_doneByCustom l D T o jn (nI 0) (-1) (nI 0) n0 s0 im iz rw t0 u0 h0 y0 sv nn nm nl no nu n1 n2 n3 n4 n5 n6 n7 n8 n9 n10 nf1 nf2 nf3 nf4 nf5 nf6 nf7 nf8 nf9 sn sm sl so su s1 s2 s3 s4 s5 s6 s7 s8 s9 s10 sf1 sf2 sf3 sf4 sf5 sf6 sf7 sf8 sf9 sf10 (by first | assumption | omega) (by first | assumption | omega) (by first | assumption | omega)) w_536 w_538 w_s13 w_2 w_539 (by decide +kernel) rfl ⟨(Nat.le_of_ble_eq_true rfl), (Nat.le_of_ble_eq_true rfl)⟩ 0 (ci := 7) rfl rfl [0, 1, 2, 3, 4, 5, 6, 7, 8, 9, 10, 11, 12, 13, 14, 15, 16, 17, 18, 19, 20, 21] [] rfl rfl rfl rfl (by decide) (Nat.le_of_ble_eq_true rfl) dX7_swapped_32 ⟨(Nat.le_of_ble_eq_true rfl), (Nat.le_of_ble_eq_true rfl)⟩ rfl (fun r w1 H locs hQ V => ?_)
      obtain ⟨z_9, xm_10, xl_11, xo_12, xu_13, q1_14, q2_15, q3_16, q4_17, q5_18, q6_19, q7_20, q8_21, q9_22, q10_23, rfl, rfl⟩ := hQ
      have V : gW D T A s [(o, .inr (7, [.ref n0, .ref s0, .ref im, .ref iz, .ref rw, .ref t0, .ref u0, .ref h0, .ref y0, sv])), (n0, .inr (5, [.int (nI nn), .int nm, .int nl, .int no, .int nu, .ref n1, .ref n2, .ref n3, .ref n4, .ref n5, .ref n6, .ref n7, .ref n8, .ref n9, .ref n10])), (n1, .inl (T 0, 10, .inl nf1)), (n2, .inl (T 0, 10, .inl nf2)), (n3, .inl (T 0, 10, .inl nf3)), (n4, .inl (T 0, 10, .inl nf4)), (n5, .inl (T 0, 10, .inl nf5)), (n6, .inl (T 0, 10, .inl nf6)), (n7, .inl (T 0, 10, .inl nf7)), (n8, .inl (T 0, 10, .inl nf8)), (n9, .inl (T 0, 10, .inl nf9)), (s0, .inr (5, [.int (nI nn), .int xm_10, .int xl_11, .int xo_12, .int xu_13, .ref s1, .ref s2, .ref s3, .ref s4, .ref s5, .ref s6, .ref s7, .ref s8, .ref s9, .ref s10])), (s1, .inl (T 0, 10, .inl q1_14)), (s2, .inl (T 0, 10, .inl q2_15)), (s3, .inl (T 0, 10, .inl q3_16)), (s4, .inl (T 0, 10, .inl q4_17)), (s5, .inl (T 0, 10, .inl q5_18)), (s6, .inl (T 0, 10, .inl q6_19)), (s7, .inl (T 0, 10, .inl q7_20)), (s8, .inl (T 0, 10, .inl q8_21)), (s9, .inl (T 0, 10, .inl q9_22)), (s10, .inl (T 0, 10, .inl q10_23))] H locs := V
      show W p l e _ s m args below meth c H locs _ _ _ (F0 m 35 ls [.int z_9])
      refine lv_istore (lv' := [(4, .int z_9), (3, .int (nI 0)), (0, .ref o), (1, .int (nI jn)), (2, .int wh)]) hx hb dX7_swapped_35 hl (by decide) rfl (fun ls hl => ?_)
      refine lv_iload hx hb dX7_swapped_37 (lv_at hl 0 rfl) ?_
      refine lv_istore (lv' := [(5, .int z_9), (4, .int z_9), (3, .int (nI 0)), (0, .ref o), (1, .int (nI jn)), (2, .int wh)]) hx hb dX7_swapped_39 hl (by decide) rfl (fun ls hl => ?_)
      refine lv_iconst (v := (-1)) hx hb dX7_swapped_41 (by decide +kernel) ?_
      refine lv_istore (lv' := [(6, .int (-1)), (5, .int z_9), (4, .int z_9), (3, .int (nI 0)), (0, .ref o), (1, .int (nI jn)), (2, .int wh)]) hx hb dX7_swapped_42 hl (by decide) rfl (fun ls hl => ?_)
      refine lv_iconst (v := (nI 0)) hx hb dX7_swapped_44 (by decide +kernel) ?_
      refine lv_istore (lv' := [(7, .int (nI 0)), (6, .int (-1)), (5, .int z_9), (4, .int z_9), (3, .int (nI 0)), (0, .ref o), (1, .int (nI jn)), (2, .int wh)]) hx hb dX7_swapped_45 hl (by decide) rfl (fun ls hl => ?_)
      have L_24 : ∀ (fu : Nat) (ka : Nat) (x47_6 : Int32) (x47_5 : Int32) (qn : Int32) (qm : Int32) (ql_ : Int32) (qo : Int32) (qu : Int32) (e1_ : Nat → Int32) (e2_ : Nat → Int32) (e3_ : Nat → Int32) (e4_ : Nat → Int32) (e5_ : Nat → Int32) (e6_ : Nat → Int32) (e7_ : Nat → Int32) (e8_ : Nat → Int32) (e9_ : Nat → Int32) (e10_ : Nat → Int32), ka ≤ nn → nn - ka < fu → ∀ (H : Heap) (locs : List Loc) (ls : Array Slot), gW D T A s [(o, .inr (7, [.ref n0, .ref s0, .ref im, .ref iz, .ref rw, .ref t0, .ref u0, .ref h0, .ref y0, sv])), (n0, .inr (5, [.int (nI nn), .int nm, .int nl, .int no, .int nu, .ref n1, .ref n2, .ref n3, .ref n4, .ref n5, .ref n6, .ref n7, .ref n8, .ref n9, .ref n10])), (n1, .inl (T 0, 10, .inl nf1)), (n2, .inl (T 0, 10, .inl nf2)), (n3, .inl (T 0, 10, .inl nf3)), (n4, .inl (T 0, 10, .inl nf4)), (n5, .inl (T 0, 10, .inl nf5)), (n6, .inl (T 0, 10, .inl nf6)), (n7, .inl (T 0, 10, .inl nf7)), (n8, .inl (T 0, 10, .inl nf8)), (n9, .inl (T 0, 10, .inl nf9)), (s0, .inr (5, [.int qn, .int qm, .int ql_, .int qo, .int qu, .ref s1, .ref s2, .ref s3, .ref s4, .ref s5, .ref s6, .ref s7, .ref s8, .ref s9, .ref s10])), (s1, .inl (T 0, 10, .inl e1_)), (s2, .inl (T 0, 10, .inl e2_)), (s3, .inl (T 0, 10, .inl e3_)), (s4, .inl (T 0, 10, .inl e4_)), (s5, .inl (T 0, 10, .inl e5_)), (s6, .inl (T 0, 10, .inl e6_)), (s7, .inl (T 0, 10, .inl e7_)), (s8, .inl (T 0, 10, .inl e8_)), (s9, .inl (T 0, 10, .inl e9_)), (s10, .inl (T 0, 10, .inl e10_))] H locs → lv_has ls 10 [(7, .int (nI ka)), (6, .int x47_6), (5, .int x47_5), (4, .int z_9), (3, .int (nI 0)), (0, .ref o), (1, .int (nI jn)), (2, .int wh)] → W p l e (rmD 6 0 0) s m args below meth c H locs 0 0 (MQ below (gQ D A (q_x_swapped T o n wh n0 s0 im iz rw t0 u0 h0 y0 sv nn nm nl no nu n1 n2 n3 n4 n5 n6 n7 n8 n9 n10 nf1 nf2 nf3 nf4 nf5 nf6 nf7 nf8 nf9 sn sm sl so su s1 s2 s3 s4 s5 s6 s7 s8 s9 s10 sf1 sf2 sf3 sf4 sf5 sf6 sf7 sf8 sf9 sf10)) args s 0 0 A) (F0 m 47 ls []) := by
        intro fu_47
        induction fu_47 with
        | zero => intro ka x47_6 x47_5 qn qm ql_ qo qu e1_ e2_ e3_ e4_ e5_ e6_ e7_ e8_ e9_ e10_ hka hmu; exact absurd hmu (Nat.not_lt_zero _)
        | succ fu_47 ih_47 =>
          intro ka x47_6 x47_5 qn qm ql_ qo qu e1_ e2_ e3_ e4_ e5_ e6_ e7_ e8_ e9_ e10_ hka hmu_47 H locs ls V hl
          refine lv_iload hx hb dX7_swapped_47 (lv_at hl 0 rfl) ?_
          refine lv_aload_n hx hb dX7_swapped_49 rfl (lv_at hl 5 rfl) ?_
          refine g_get hC V (ci := 7) uwX7 0 rfl rfl 0 (by decide) w_249 rfl rfl dX7_swapped_50 ?_
          refine g_get hC V (ci := 5) uwX5 1 rfl rfl 0 (by decide) w_38 rfl rfl dX7_swapped_53 ?_
          refine lv_icmp_ge (tgt := 121) hx hb dX7_swapped_56 (by decide) (fun c_25 => ?_) (fun c_25 => ?_)
          · skip
            have c_25 := b_le (by omega) (by omega) c_25
            refine lv_iload_n hx hb dX7_swapped_121 rfl (lv_at hl 7 rfl) ?_
            refine lv_if_ne (tgt := 133) hx hb dX7_swapped_122 (by decide) (fun c_26 => ?_) (fun c_26 => ?_)
            · skip
              refine lv_iload hx hb dX7_swapped_133 (lv_at hl 1 rfl) ?_
              exact g_iret (Qr := (q_x_swapped T o n wh n0 s0 im iz rw t0 u0 h0 y0 sv nn nm nl no nu n1 n2 n3 n4 n5 n6 n7 n8 n9 n10 nf1 nf2 nf3 nf4 nf5 nf6 nf7 nf8 nf9 sn sm sl so su s1 s2 s3 s4 s5 s6 s7 s8 s9 s10 sf1 sf2 sf3 sf4 sf5 sf6 sf7 sf8 sf9 sf10)) hC V ⟨(Nat.le_of_ble_eq_true rfl), (Nat.le_of_ble_eq_true rfl)⟩ ⟨x47_6, qn, qm, ql_, qo, qu, e1_, e2_, e3_, e4_, e5_, e6_, e7_, e8_, e9_, e10_, rfl, rfl⟩ dX7_swapped_135
            · skip
              refine lv_iload hx hb dX7_swapped_125 (lv_at hl 2 rfl) ?_
              refine lv_iload hx hb dX7_swapped_127 (lv_at hl 3 rfl) ?_
              refine lv_isub hx hb dX7_swapped_129 ?_
              refine lv_goto (tgt := 135) hx hb dX7_swapped_130 (by decide) ?_
              exact g_iret (Qr := (q_x_swapped T o n wh n0 s0 im iz rw t0 u0 h0 y0 sv nn nm nl no nu n1 n2 n3 n4 n5 n6 n7 n8 n9 n10 nf1 nf2 nf3 nf4 nf5 nf6 nf7 nf8 nf9 sn sm sl so su s1 s2 s3 s4 s5 s6 s7 s8 s9 s10 sf1 sf2 sf3 sf4 sf5 sf6 sf7 sf8 sf9 sf10)) hC V ⟨(Nat.le_of_ble_eq_true rfl), (Nat.le_of_ble_eq_true rfl)⟩ ⟨(x47_5 - z_9), qn, qm, ql_, qo, qu, e1_, e2_, e3_, e4_, e5_, e6_, e7_, e8_, e9_, e10_, rfl, rfl⟩ dX7_swapped_135
          · skip
            have c_25 := b_nle (by omega) (by omega) c_25
            refine lv_iload hx hb dX7_swapped_59 (lv_at hl 0 rfl) ?_
            refine lv_iconst (v := (nI 1)) hx hb dX7_swapped_61 (by decide +kernel) ?_
            refine lv_iadd hx hb dX7_swapped_62 ?_
            refine g_vi (y := (nI (ka + 1))) (nI_add _ _) ?_
            refine lv_istore (lv' := [(8, .int (nI (ka + 1))), (7, .int (nI ka)), (6, .int x47_6), (5, .int x47_5), (4, .int z_9), (3, .int (nI 0)), (0, .ref o), (1, .int (nI jn)), (2, .int wh)]) hx hb dX7_swapped_63 hl (by decide) rfl (fun ls hl => ?_)
            have L_27 : ∀ (fu : Nat) (kb : Nat) (x65_6 : Int32) (x65_5 : Int32) (qn2 : Int32) (qm2 : Int32) (ql2 : Int32) (qo2 : Int32) (qu2 : Int32) (f1_ : Nat → Int32) (f2_ : Nat → Int32) (f3_ : Nat → Int32) (f4_ : Nat → Int32) (f5_ : Nat → Int32) (f6_ : Nat → Int32) (f7_ : Nat → Int32) (f8_ : Nat → Int32) (f9_ : Nat → Int32) (f10_ : Nat → Int32), kb ≤ nn → nn - kb < fu → ∀ (H : Heap) (locs : List Loc) (ls : Array Slot), gW D T A s [(o, .inr (7, [.ref n0, .ref s0, .ref im, .ref iz, .ref rw, .ref t0, .ref u0, .ref h0, .ref y0, sv])), (n0, .inr (5, [.int (nI nn), .int nm, .int nl, .int no, .int nu, .ref n1, .ref n2, .ref n3, .ref n4, .ref n5, .ref n6, .ref n7, .ref n8, .ref n9, .ref n10])), (n1, .inl (T 0, 10, .inl nf1)), (n2, .inl (T 0, 10, .inl nf2)), (n3, .inl (T 0, 10, .inl nf3)), (n4, .inl (T 0, 10, .inl nf4)), (n5, .inl (T 0, 10, .inl nf5)), (n6, .inl (T 0, 10, .inl nf6)), (n7, .inl (T 0, 10, .inl nf7)), (n8, .inl (T 0, 10, .inl nf8)), (n9, .inl (T 0, 10, .inl nf9)), (s0, .inr (5, [.int qn2, .int qm2, .int ql2, .int qo2, .int qu2, .ref s1, .ref s2, .ref s3, .ref s4, .ref s5, .ref s6, .ref s7, .ref s8, .ref s9, .ref s10])), (s1, .inl (T 0, 10, .inl f1_)), (s2, .inl (T 0, 10, .inl f2_)), (s3, .inl (T 0, 10, .inl f3_)), (s4, .inl (T 0, 10, .inl f4_)), (s5, .inl (T 0, 10, .inl f5_)), (s6, .inl (T 0, 10, .inl f6_)), (s7, .inl (T 0, 10, .inl f7_)), (s8, .inl (T 0, 10, .inl f8_)), (s9, .inl (T 0, 10, .inl f9_)), (s10, .inl (T 0, 10, .inl f10_))] H locs → lv_has ls 10 [(8, .int (nI kb)), (7, .int (nI ka)), (6, .int x65_6), (5, .int x65_5), (4, .int z_9), (3, .int (nI 0)), (0, .ref o), (1, .int (nI jn)), (2, .int wh)] → W p l e (rmD 6 0 0) s m args below meth c H locs 0 0 (MQ below (gQ D A (q_x_swapped T o n wh n0 s0 im iz rw t0 u0 h0 y0 sv nn nm nl no nu n1 n2 n3 n4 n5 n6 n7 n8 n9 n10 nf1 nf2 nf3 nf4 nf5 nf6 nf7 nf8 nf9 sn sm sl so su s1 s2 s3 s4 s5 s6 s7 s8 s9 s10 sf1 sf2 sf3 sf4 sf5 sf6 sf7 sf8 sf9 sf10)) args s 0 0 A) (F0 m 65 ls []) := by
              intro fu_65
              induction fu_65 with
              | zero => intro kb x65_6 x65_5 qn2 qm2 ql2 qo2 qu2 f1_ f2_ f3_ f4_ f5_ f6_ f7_ f8_ f9_ f10_ hkb hmu; exact absurd hmu (Nat.not_lt_zero _)
              | succ fu_65 ih_65 =>
                intro kb x65_6 x65_5 qn2 qm2 ql2 qo2 qu2 f1_ f2_ f3_ f4_ f5_ f6_ f7_ f8_ f9_ f10_ hkb hmu_65 H locs ls V hl
                refine lv_iload hx hb dX7_swapped_65 (lv_at hl 0 rfl) ?_
                refine lv_aload_n hx hb dX7_swapped_67 rfl (lv_at hl 6 rfl) ?_
                refine g_get hC V (ci := 7) uwX7 0 rfl rfl 0 (by decide) w_249 rfl rfl dX7_swapped_68 ?_
                refine g_get hC V (ci := 5) uwX5 1 rfl rfl 0 (by decide) w_38 rfl rfl dX7_swapped_71 ?_
                refine lv_icmp_ge (tgt := 115) hx hb dX7_swapped_74 (by decide) (fun c_28 => ?_) (fun c_28 => ?_)
                · skip
                  have c_28 := b_le (by omega) (by omega) c_28
                  refine lv_iinc (v := (nI (ka + 1))) (lv' := [(7, .int (nI (ka + 1))), (8, .int (nI kb)), (6, .int x65_6), (5, .int x65_5), (4, .int z_9), (3, .int (nI 0)), (0, .ref o), (1, .int (nI jn)), (2, .int wh)]) hx hb dX7_swapped_115 hl (k := 1) rfl (nI_1 _) (by decide) rfl (fun ls hl => ?_)
                  refine lv_goto (tgt := 47) hx hb dX7_swapped_118 (by decide) ?_
                  exact ih_47 (ka + 1) x65_6 x65_5 qn2 qm2 ql2 qo2 qu2 f1_ f2_ f3_ f4_ f5_ f6_ f7_ f8_ f9_ f10_ (by omega) (by omega) _ _ _ V (lv_sub hl [0, 2, 3, 4, 5, 6, 7, 8] rfl)
                · skip
                  have c_28 := b_nle (by omega) (by omega) c_28
                  refine lv_aload_n hx hb dX7_swapped_77 rfl (lv_at hl 6 rfl) ?_
                  refine lv_iload_n hx hb dX7_swapped_78 rfl (lv_at hl 7 rfl) ?_
                  refine lv_iload hx hb dX7_swapped_79 (lv_at hl 1 rfl) ?_
                  refine lv_iload hx hb dX7_swapped_81 (lv_at hl 0 rfl) ?_
                  refine g_callV (wr := []) (nA := 3) hC V hl.1 (x_doneBySwapped l D T o jn ka kb n0 s0 im iz rw t0 u0 h0 y0 sv nn nm nl no nu n1 n2 n3 n4 n5 n6 n7 n8 n9 n10 nf1 nf2 nf3 nf4 nf5 nf6 nf7 nf8 nf9 qn2 qm2 ql2 qo2 qu2 s1 s2 s3 s4 s5 s6 s7 s8 s9 s10 f1_ f2_ f3_ f4_ f5_ f6_ f7_ f8_ f9_ f10_ (by first | assumption | omega) (by first | assumption | omega) (by first | assumption | omega) (by first | assumption | omega) (by first | assumption | omega)) w_837 w_839 w_s34 w_2 w_840 (by decide +kernel) rfl ⟨(Nat.le_of_ble_eq_true rfl), (Nat.le_of_ble_eq_true rfl)⟩ 0 (ci := 7) rfl rfl [0, 1, 2, 3, 4, 5, 6, 7, 8, 9, 10, 11, 12, 13, 14, 15, 16, 17, 18, 19, 20, 21] [] rfl rfl rfl rfl (by decide) (Nat.le_of_ble_eq_true rfl) dX7_swapped_83 ⟨(Nat.le_of_ble_eq_true rfl), (Nat.le_of_ble_eq_true rfl)⟩ rfl (fun r w1 H locs hQ V => ?_)
                  obtain ⟨z_29, xm_30, xl_31, xo_32, xu_33, q1_34, q2_35, q3_36, q4_37, q5_38, q6_39, q7_40, q8_41, q9_42, q10_43, rfl, rfl⟩ := hQ
                  have V : gW D T A s [(o, .inr (7, [.ref n0, .ref s0, .ref im, .ref iz, .ref rw, .ref t0, .ref u0, .ref h0, .ref y0, sv])), (n0, .inr (5, [.int (nI nn), .int nm, .int nl, .int no, .int nu, .ref n1, .ref n2, .ref n3, .ref n4, .ref n5, .ref n6, .ref n7, .ref n8, .ref n9, .ref n10])), (n1, .inl (T 0, 10, .inl nf1)), (n2, .inl (T 0, 10, .inl nf2)), (n3, .inl (T 0, 10, .inl nf3)), (n4, .inl (T 0, 10, .inl nf4)), (n5, .inl (T 0, 10, .inl nf5)), (n6, .inl (T 0, 10, .inl nf6)), (n7, .inl (T 0, 10, .inl nf7)), (n8, .inl (T 0, 10, .inl nf8)), (n9, .inl (T 0, 10, .inl nf9)), (s0, .inr (5, [.int (nI nn), .int xm_30, .int xl_31, .int xo_32, .int xu_33, .ref s1, .ref s2, .ref s3, .ref s4, .ref s5, .ref s6, .ref s7, .ref s8, .ref s9, .ref s10])), (s1, .inl (T 0, 10, .inl q1_34)), (s2, .inl (T 0, 10, .inl q2_35)), (s3, .inl (T 0, 10, .inl q3_36)), (s4, .inl (T 0, 10, .inl q4_37)), (s5, .inl (T 0, 10, .inl q5_38)), (s6, .inl (T 0, 10, .inl q6_39)), (s7, .inl (T 0, 10, .inl q7_40)), (s8, .inl (T 0, 10, .inl q8_41)), (s9, .inl (T 0, 10, .inl q9_42)), (s10, .inl (T 0, 10, .inl q10_43))] H locs := V
                  show W p l e _ s m args below meth c H locs _ _ _ (F0 m 86 ls [.int z_29])
                  refine lv_istore (lv' := [(9, .int z_29), (8, .int (nI kb)), (7, .int (nI ka)), (6, .int x65_6), (5, .int x65_5), (4, .int z_9), (3, .int (nI 0)), (0, .ref o), (1, .int (nI jn)), (2, .int wh)]) hx hb dX7_swapped_86 hl (by decide) rfl (fun ls hl => ?_)
                  refine lv_iload hx hb dX7_swapped_88 (lv_at hl 0 rfl) ?_
                  refine lv_iload hx hb dX7_swapped_90 (lv_at hl 4 rfl) ?_
                  refine lv_icmp_le (tgt := 109) hx hb dX7_swapped_92 (by decide) (fun c_44 => ?_) (fun c_44 => ?_)
                  · skip
                    refine lv_iinc (v := (nI (kb + 1))) (lv' := [(8, .int (nI (kb + 1))), (9, .int z_29), (7, .int (nI ka)), (6, .int x65_6), (5, .int x65_5), (4, .int z_9), (3, .int (nI 0)), (0, .ref o), (1, .int (nI jn)), (2, .int wh)]) hx hb dX7_swapped_109 hl (k := 1) rfl (nI_1 _) (by decide) rfl (fun ls hl => ?_)
                    refine lv_goto (tgt := 65) hx hb dX7_swapped_112 (by decide) ?_
                    exact ih_65 (kb + 1) x65_6 x65_5 (nI nn) xm_30 xl_31 xo_32 xu_33 q1_34 q2_35 q3_36 q4_37 q5_38 q6_39 q7_40 q8_41 q9_42 q10_43 (by omega) (by omega) _ _ _ V (lv_sub hl [0, 2, 3, 4, 5, 6, 7, 8, 9] rfl)
                  · skip
                    refine lv_iload hx hb dX7_swapped_95 (lv_at hl 0 rfl) ?_
                    refine lv_istore (lv' := [(5, .int z_29), (9, .int z_29), (8, .int (nI kb)), (7, .int (nI ka)), (6, .int x65_6), (4, .int z_9), (3, .int (nI 0)), (0, .ref o), (1, .int (nI jn)), (2, .int wh)]) hx hb dX7_swapped_97 hl (by decide) rfl (fun ls hl => ?_)
                    refine lv_bipush (v := (nI 10)) hx hb dX7_swapped_99 (by decide +kernel) ?_
                    refine lv_iload hx hb dX7_swapped_101 (lv_at hl 3 rfl) ?_
                    refine lv_imul hx hb dX7_swapped_103 ?_
                    refine g_vi (y := (nI (10 * ka))) (pk_mul _ _) ?_
                    refine lv_iload hx hb dX7_swapped_104 (lv_at hl 2 rfl) ?_
                    refine lv_iadd hx hb dX7_swapped_106 ?_
                    refine g_vi (y := (nI ((10 * ka) + kb))) (nI_add _ _) ?_
                    refine lv_istore (lv' := [(6, .int (nI ((10 * ka) + kb))), (5, .int z_29), (9, .int z_29), (8, .int (nI kb)), (7, .int (nI ka)), (4, .int z_9), (3, .int (nI 0)), (0, .ref o), (1, .int (nI jn)), (2, .int wh)]) hx hb dX7_swapped_107 hl (by decide) rfl (fun ls hl => ?_)
                    refine lv_iinc (v := (nI (kb + 1))) (lv' := [(8, .int (nI (kb + 1))), (6, .int (nI ((10 * ka) + kb))), (5, .int z_29), (9, .int z_29), (7, .int (nI ka)), (4, .int z_9), (3, .int (nI 0)), (0, .ref o), (1, .int (nI jn)), (2, .int wh)]) hx hb dX7_swapped_109 hl (k := 3) rfl (nI_1 _) (by decide) rfl (fun ls hl => ?_)
                    refine lv_goto (tgt := 65) hx hb dX7_swapped_112 (by decide) ?_
                    exact ih_65 (kb + 1) (nI ((10 * ka) + kb)) z_29 (nI nn) xm_30 xl_31 xo_32 xu_33 q1_34 q2_35 q3_36 q4_37 q5_38 q6_39 q7_40 q8_41 q9_42 q10_43 (by omega) (by omega) _ _ _ V (lv_sub hl [0, 4, 1, 2, 5, 6, 7, 8, 9] rfl)
            exact L_27 _ (ka + 1) x47_6 x47_5 qn qm ql_ qo qu e1_ e2_ e3_ e4_ e5_ e6_ e7_ e8_ e9_ e10_ (by omega) (Nat.lt_succ_self _) _ _ _ V (lv_sub hl [0, 1, 2, 3, 4, 5, 6, 7, 8] rfl)
      exact L_24 _ 0 (-1) z_9 (nI nn) xm_10 xl_11 xo_12 xu_13 q1_14 q2_15 q3_16 q4_17 q5_18 q6_19 q7_20 q8_21 q9_22 q10_23 (by omega) (Nat.lt_succ_self _) _ _ _ V (lv_sub hl [0, 1, 2, 3, 4, 5, 6, 7] rfl)
    · have V : gW D T A s [(o, .inr (7, [.ref n0, .ref s0, .ref im, .ref iz, .ref rw, .ref t0, .ref u0, .ref h0, .ref y0, sv])), (n0, .inr (5, [.int (nI nn), .int nm, .int nl, .int no, .int nu, .ref n1, .ref n2, .ref n3, .ref n4, .ref n5, .ref n6, .ref n7, .ref n8, .ref n9, .ref n10])), (n1, .inl (T 0, 10, .inl nf1)), (n2, .inl (T 0, 10, .inl nf2)), (n3, .inl (T 0, 10, .inl nf3)), (n4, .inl (T 0, 10, .inl nf4)), (n5, .inl (T 0, 10, .inl nf5)), (n6, .inl (T 0, 10, .inl nf6)), (n7, .inl (T 0, 10, .inl nf7)), (n8, .inl (T 0, 10, .inl nf8)), (n9, .inl (T 0, 10, .inl nf9)), (s0, .inr (5, [.int sn, .int sm, .int sl, .int so, .int su, .ref s1, .ref s2, .ref s3, .ref s4, .ref s5, .ref s6, .ref s7, .ref s8, .ref s9, .ref s10])), (s1, .inl (T 0, 10, .inl sf1)), (s2, .inl (T 0, 10, .inl sf2)), (s3, .inl (T 0, 10, .inl sf3)), (s4, .inl (T 0, 10, .inl sf4)), (s5, .inl (T 0, 10, .inl sf5)), (s6, .inl (T 0, 10, .inl sf6)), (s7, .inl (T 0, 10, .inl sf7)), (s8, .inl (T 0, 10, .inl sf8)), (s9, .inl (T 0, 10, .inl sf9)), (s10, .inl (T 0, 10, .inl sf10))] H locs := V _ [0, 0] rfl rfl rfl (by decide +kernel) rfl
      show W p l e _ s m args below meth c H locs _ _ _ (F0 m 20 ls [.int z_7])
      refine lv_istore_n (lv' := [(3, .int z_7), (0, .ref o), (1, .int n), (2, .int wh)]) hx hb dX7_swapped_20 rfl hl (by decide) rfl (fun ls hl => ?_)
      refine lv_iload_n hx hb dX7_swapped_21 rfl (lv_at hl 0 rfl) ?_
      refine lv_if_eq (tgt := 27) hx hb dX7_swapped_22 (by decide) (fun c_45 => ?_) (fun c_45 => ?_)
      · skip
        exact (absurd c_45 (by assumption) : False).elim
      · skip
        refine lv_iload_n hx hb dX7_swapped_25 rfl (lv_at hl 0 rfl) ?_
        exact g_iret (Qr := (q_x_swapped T o n wh n0 s0 im iz rw t0 u0 h0 y0 sv nn nm nl no nu n1 n2 n3 n4 n5 n6 n7 n8 n9 n10 nf1 nf2 nf3 nf4 nf5 nf6 nf7 nf8 nf9 sn sm sl so su s1 s2 s3 s4 s5 s6 s7 s8 s9 s10 sf1 sf2 sf3 sf4 sf5 sf6 sf7 sf8 sf9 sf10)) hC V ⟨(Nat.le_of_ble_eq_true rfl), (Nat.le_of_ble_eq_true rfl)⟩ ⟨z_7, sn, sm, sl, so, su, sf1, sf2, sf3, sf4, sf5, sf6, sf7, sf8, sf9, sf10, rfl, rfl⟩ dX7_swapped_26
  · have V : gW D T A s [(o, .inr (7, [.ref n0, .ref s0, .ref im, .ref iz, .ref rw, .ref t0, .ref u0, .ref h0, .ref y0, sv])), (n0, .inr (5, [.int (nI nn), .int nm, .int nl, .int no, .int nu, .ref n1, .ref n2, .ref n3, .ref n4, .ref n5, .ref n6, .ref n7, .ref n8, .ref n9, .ref n10])), (n1, .inl (T 0, 10, .inl nf1)), (n2, .inl (T 0, 10, .inl nf2)), (n3, .inl (T 0, 10, .inl nf3)), (n4, .inl (T 0, 10, .inl nf4)), (n5, .inl (T 0, 10, .inl nf5)), (n6, .inl (T 0, 10, .inl nf6)), (n7, .inl (T 0, 10, .inl nf7)), (n8, .inl (T 0, 10, .inl nf8)), (n9, .inl (T 0, 10, .inl nf9)), (s0, .inr (5, [.int sn, .int sm, .int sl, .int so, .int su, .ref s1, .ref s2, .ref s3, .ref s4, .ref s5, .ref s6, .ref s7, .ref s8, .ref s9, .ref s10])), (s1, .inl (T 0, 10, .inl sf1)), (s2, .inl (T 0, 10, .inl sf2)), (s3, .inl (T 0, 10, .inl sf3)), (s4, .inl (T 0, 10, .inl sf4)), (s5, .inl (T 0, 10, .inl sf5)), (s6, .inl (T 0, 10, .inl sf6)), (s7, .inl (T 0, 10, .inl sf7)), (s8, .inl (T 0, 10, .inl sf8)), (s9, .inl (T 0, 10, .inl sf9)), (s10, .inl (T 0, 10, .inl sf10))] H locs := V _ [] rfl rfl rfl (by decide +kernel) rfl
    show W p l e _ s m args below meth c H locs _ _ _ (F0 m 6 ls [.int (nI 0)])
    refine lv_if_ne (tgt := 12) hx hb dX7_swapped_6 (by decide) (fun c => absurd (show (nI 0) = 0 by decide +kernel) c) (fun _ => ?_)
    refine lv_bipush (v := (-2)) hx hb dX7_swapped_9 (by decide +kernel) ?_
    exact g_iret (Qr := (q_x_swapped T o n wh n0 s0 im iz rw t0 u0 h0 y0 sv nn nm nl no nu n1 n2 n3 n4 n5 n6 n7 n8 n9 n10 nf1 nf2 nf3 nf4 nf5 nf6 nf7 nf8 nf9 sn sm sl so su s1 s2 s3 s4 s5 s6 s7 s8 s9 s10 sf1 sf2 sf3 sf4 sf5 sf6 sf7 sf8 sf9 sf10)) hC V ⟨(Nat.le_of_ble_eq_true rfl), (Nat.le_of_ble_eq_true rfl)⟩ ⟨(-2), sn, sm, sl, so, su, sf1, sf2, sf3, sf4, sf5, sf6, sf7, sf8, sf9, sf10, rfl, rfl⟩ dX7_swapped_11

def q_x_warm (T : Nat → ClassId) (o : Nat) (i : Int32) (ht : Int32) (n0 : Nat) (s0 : Nat) (im : Nat) (iz : Nat) (rw : Nat) (t0 : Nat) (u0 : Nat) (h0 : Nat) (y0 : Nat) (sv : Value) (nn : Nat) (nm : Int32) (nl : Int32) (no : Int32) (nu : Int32) (n1 : Nat) (n2 : Nat) (n3 : Nat) (n4 : Nat) (n5 : Nat) (n6 : Nat) (n7 : Nat) (n8 : Nat) (n9 : Nat) (n10 : Nat) (nf1 : Nat → Int32) (nf2 : Nat → Int32) (nf3 : Nat → Int32) (nf9 : Nat → Int32) : Option Value → va_W → Prop := fun rr ww => (∃ (z : Int32), rr = some (.int z) ∧ ww = [(o, .inr (7, [.ref n0, .ref s0, .ref im, .ref iz, .ref rw, .ref t0, .ref u0, .ref h0, .ref y0, sv])), (n0, .inr (5, [.int (nI nn), .int nm, .int nl, .int no, .int nu, .ref n1, .ref n2, .ref n3, .ref n4, .ref n5, .ref n6, .ref n7, .ref n8, .ref n9, .ref n10])), (n1, .inl (T 0, 10, .inl nf1)), (n2, .inl (T 0, 10, .inl nf2)), (n3, .inl (T 0, 10, .inl nf3)), (n9, .inl (T 0, 10, .inl nf9))])
set_option maxHeartbeats 4000000 in
set_option maxRecDepth 100000 in
theorem x_warm (l : Launch) (D : va_G) (T : Nat → ClassId) (o : Nat) (i : Int32) (ht : Int32) (n0 : Nat) (s0 : Nat) (im : Nat) (iz : Nat) (rw : Nat) (t0 : Nat) (u0 : Nat) (h0 : Nat) (y0 : Nat) (sv : Value) (nn : Nat) (nm : Int32) (nl : Int32) (no : Int32) (nu : Int32) (n1 : Nat) (n2 : Nat) (n3 : Nat) (n4 : Nat) (n5 : Nat) (n6 : Nat) (n7 : Nat) (n8 : Nat) (n9 : Nat) (n10 : Nat) (nf1 : Nat → Int32) (nf2 : Nat → Int32) (nf3 : Nat → Int32) (nf9 : Nat → Int32) (h_n : nn ≤ 10) : Ct l yX7_warm cX7_warm 5 (some .int) 2 0 0 D T [.ref o, .int i, .int ht] [(o, .inr (7, [.ref n0, .ref s0, .ref im, .ref iz, .ref rw, .ref t0, .ref u0, .ref h0, .ref y0, sv])), (n0, .inr (5, [.int (nI nn), .int nm, .int nl, .int no, .int nu, .ref n1, .ref n2, .ref n3, .ref n4, .ref n5, .ref n6, .ref n7, .ref n8, .ref n9, .ref n10])), (n1, .inl (T 0, 10, .inl nf1)), (n2, .inl (T 0, 10, .inl nf2)), (n3, .inl (T 0, 10, .inl nf3)), (n9, .inl (T 0, 10, .inl nf9))] (q_x_warm T o i ht n0 s0 im iz rw t0 u0 h0 y0 sv nn nm nl no nu n1 n2 n3 n4 n5 n6 n7 n8 n9 n10 nf1 nf2 nf3 nf9) := by
  refine Ct.of (cc := cX7_warm) (maxL := 5) (ret := (some .int)) (by decide) (Nat.le_of_ble_eq_true rfl) ?_
  intro p e s m args below meth c A ls hC hnm V hl
  obtain ⟨hx, hb, hr, hml, hown, hts, hlocks⟩ := id hC
  generalize hH : s.heap = H at V ⊢
  clear hH
  have hl : lv_has ls 5 [(0, .ref o), (1, .int i), (2, .int ht)] := hl
  generalize hlo : ([] : List Loc) = locs at V ⊢
  clear hlo
  refine lv_aload_n hx hb dX7_warm_0 rfl (lv_at hl 0 rfl) ?_
  refine g_get hC V (ci := 7) uwX7 0 rfl rfl 0 (by decide) w_249 rfl rfl dX7_warm_1 ?_
  refine lv_iload_n hx hb dX7_warm_4 rfl (lv_at hl 1 rfl) ?_
  refine g_callVU (nA := 1) hC V hl.1 (s_isSmith l D T n0 i nn nm nl no nu n1 n2 n3 n4 n5 n6 n7 n8 n9 n10 (by first | assumption | omega)) w_425 w_426 w_427 w_3 w_428 (by decide +kernel) rfl ⟨(Nat.le_of_ble_eq_true rfl), (Nat.le_of_ble_eq_true rfl)⟩ 1 (ci := 5) rfl rfl [1] rfl rfl (Nat.le_of_ble_eq_true rfl) dX7_warm_5 ⟨(Nat.le_of_ble_eq_true rfl), (Nat.le_of_ble_eq_true rfl)⟩ rfl (fun r w1 H locs hQ V => ?_)
  rcases hQ with ⟨j_1, rfl, rfl, f_2, f_3⟩ | ⟨rfl, rfl, f_4⟩
  · have V : gW D T A s [(o, .inr (7, [.ref n0, .ref s0, .ref im, .ref iz, .ref rw, .ref t0, .ref u0, .ref h0, .ref y0, sv])), (n0, .inr (5, [.int (nI nn), .int nm, .int nl, .int no, .int nu, .ref n1, .ref n2, .ref n3, .ref n4, .ref n5, .ref n6, .ref n7, .ref n8, .ref n9, .ref n10])), (n1, .inl (T 0, 10, .inl nf1)), (n2, .inl (T 0, 10, .inl nf2)), (n3, .inl (T 0, 10, .inl nf3)), (n9, .inl (T 0, 10, .inl nf9))] H locs := V _ [1] rfl rfl rfl (by decide +kernel) rfl
    show W p l e _ s m args below meth c H locs _ _ _ (F0 m 8 ls [.int (nI 1)])
    rw [f_2] at hl
    refine lv_if_ne (tgt := 14) hx hb dX7_warm_8 (by decide) (fun _ => ?_) (fun c => absurd (show (nI 1) = 0 from c) (by decide +kernel))
    refine lv_iload_n hx hb dX7_warm_14 rfl (lv_at hl 2 rfl) ?_
    refine lv_iconst (v := (nI 0)) hx hb dX7_warm_15 (by decide +kernel) ?_
    refine lv_sipush (v := (nI 200)) hx hb dX7_warm_16 (by decide +kernel) ?_
    refine g_callSU (nA := 3) hC V hl.1 (c_isWithin l D T ht (nI 0) (nI 200)) w_292 w_293 w_2 w_294 (by decide +kernel) rfl ⟨(Nat.le_of_ble_eq_true rfl), (Nat.le_of_ble_eq_true rfl)⟩ [] rfl rfl (Nat.le_of_ble_eq_true rfl) dX7_warm_19 ⟨(Nat.le_of_ble_eq_true rfl), (Nat.le_of_ble_eq_true rfl)⟩ rfl (fun r w1 H locs hQ V => ?_)
    rcases hQ with ⟨rfl, rfl, f_5, f_6⟩ | ⟨rfl, rfl, f_7⟩
    · have V : gW D T A s [(o, .inr (7, [.ref n0, .ref s0, .ref im, .ref iz, .ref rw, .ref t0, .ref u0, .ref h0, .ref y0, sv])), (n0, .inr (5, [.int (nI nn), .int nm, .int nl, .int no, .int nu, .ref n1, .ref n2, .ref n3, .ref n4, .ref n5, .ref n6, .ref n7, .ref n8, .ref n9, .ref n10])), (n1, .inl (T 0, 10, .inl nf1)), (n2, .inl (T 0, 10, .inl nf2)), (n3, .inl (T 0, 10, .inl nf3)), (n9, .inl (T 0, 10, .inl nf9))] H locs := V _ [] rfl rfl rfl (by decide +kernel) rfl
      show W p l e _ s m args below meth c H locs _ _ _ (F0 m 22 ls [.int (nI 1)])
      refine lv_if_ne (tgt := 28) hx hb dX7_warm_22 (by decide) (fun _ => ?_) (fun c => absurd (show (nI 1) = 0 from c) (by decide +kernel))
      refine lv_iload_n hx hb dX7_warm_28 rfl (lv_at hl 2 rfl) ?_
      refine lv_aload_n hx hb dX7_warm_29 rfl (lv_at hl 0 rfl) ?_
      refine g_get hC V (ci := 7) uwX7 0 rfl rfl 0 (by decide) w_249 rfl rfl dX7_warm_30 ?_
      refine g_get hC V (ci := 5) uwX5 1 rfl rfl 7 (by decide) w_65 rfl rfl dX7_warm_33 ?_
      refine lv_iload_n hx hb dX7_warm_36 rfl (lv_at hl 1 rfl) ?_
      refine g_iald hC V 4 rfl (vp_in_nI (by omega) (by omega)) (v := (nf3 j_1)) (congrArg _ (nI_clamp (by omega))) dX7_warm_37 ?_
      refine lv_isub hx hb dX7_warm_38 ?_
      refine lv_istore_n (lv' := [(3, .int (ht - (nf3 j_1))), (0, .ref o), (1, .int (nI j_1)), (2, .int ht)]) hx hb dX7_warm_39 rfl hl (by decide) rfl (fun ls hl => ?_)
      refine lv_iload_n hx hb dX7_warm_40 rfl (lv_at hl 0 rfl) ?_
      refine lv_if_gt (tgt := 46) hx hb dX7_warm_41 (by decide) (fun c_8 => ?_) (fun c_8 => ?_)
      · skip
        refine lv_aload_n hx hb dX7_warm_46 rfl (lv_at hl 1 rfl) ?_
        refine g_get hC V (ci := 7) uwX7 0 rfl rfl 0 (by decide) w_249 rfl rfl dX7_warm_47 ?_
        refine lv_iload_n hx hb dX7_warm_50 rfl (lv_at hl 2 rfl) ?_
        refine lv_aload_n hx hb dX7_warm_51 rfl (lv_at hl 1 rfl) ?_
        refine g_get hC V (ci := 7) uwX7 0 rfl rfl 0 (by decide) w_249 rfl rfl dX7_warm_52 ?_
        refine g_callVU (nA := 0) hC V hl.1 (s_everyone l D T n0 nn nm nl no nu n1 n2 n3 n4 n5 n6 n7 n8 n9 n10 (by first | assumption | omega)) w_682 w_463 w_464 w_3 w_465 (by decide +kernel) rfl ⟨(Nat.le_of_ble_eq_true rfl), (Nat.le_of_ble_eq_true rfl)⟩ 1 (ci := 5) rfl rfl [1] rfl rfl (Nat.le_of_ble_eq_true rfl) dX7_warm_55 ⟨(Nat.le_of_ble_eq_true rfl), (Nat.le_of_ble_eq_true rfl)⟩ rfl (fun r w1 H locs hQ V => ?_)
        obtain ⟨rfl, rfl⟩ := hQ
        have V : gW D T A s [(o, .inr (7, [.ref n0, .ref s0, .ref im, .ref iz, .ref rw, .ref t0, .ref u0, .ref h0, .ref y0, sv])), (n0, .inr (5, [.int (nI nn), .int nm, .int nl, .int no, .int nu, .ref n1, .ref n2, .ref n3, .ref n4, .ref n5, .ref n6, .ref n7, .ref n8, .ref n9, .ref n10])), (n1, .inl (T 0, 10, .inl nf1)), (n2, .inl (T 0, 10, .inl nf2)), (n3, .inl (T 0, 10, .inl nf3)), (n9, .inl (T 0, 10, .inl nf9))] H locs := V _ [1] rfl rfl rfl (by decide +kernel) rfl
        show W p l e _ s m args below meth c H locs _ _ _ (F0 m 58 ls [.int (nI (2 ^ nn - 1)), .int (nI j_1), .ref n0])
        refine g_callVU (nA := 2) hC V hl.1 (s_blastOn l D T n0 (nI j_1) (nI (2 ^ nn - 1)) nn nm nl no nu n1 n2 n3 n4 n5 n6 n7 n8 n9 n10 nf1 nf9 (by first | assumption | omega)) w_850 w_700 w_701 w_3 w_702 (by decide +kernel) rfl ⟨(Nat.le_of_ble_eq_true rfl), (Nat.le_of_ble_eq_true rfl)⟩ 1 (ci := 5) rfl rfl [1, 2, 5] rfl rfl (Nat.le_of_ble_eq_true rfl) dX7_warm_58 ⟨(Nat.le_of_ble_eq_true rfl), (Nat.le_of_ble_eq_true rfl)⟩ rfl (fun r w1 H locs hQ V => ?_)
        obtain ⟨z_9, rfl, rfl⟩ := hQ
        have V : gW D T A s [(o, .inr (7, [.ref n0, .ref s0, .ref im, .ref iz, .ref rw, .ref t0, .ref u0, .ref h0, .ref y0, sv])), (n0, .inr (5, [.int (nI nn), .int nm, .int nl, .int no, .int nu, .ref n1, .ref n2, .ref n3, .ref n4, .ref n5, .ref n6, .ref n7, .ref n8, .ref n9, .ref n10])), (n1, .inl (T 0, 10, .inl nf1)), (n2, .inl (T 0, 10, .inl nf2)), (n3, .inl (T 0, 10, .inl nf3)), (n9, .inl (T 0, 10, .inl nf9))] H locs := V _ [1, 0, 2] rfl rfl rfl (by decide +kernel) rfl
        show W p l e _ s m args below meth c H locs _ _ _ (F0 m 61 ls [.int z_9])
        refine lv_aload_n hx hb dX7_warm_61 rfl (lv_at hl 1 rfl) ?_
        refine g_get hC V (ci := 7) uwX7 0 rfl rfl 0 (by decide) w_249 rfl rfl dX7_warm_62 ?_
        refine g_get hC V (ci := 5) uwX5 1 rfl rfl 6 (by decide) w_60 rfl rfl dX7_warm_65 ?_
        refine lv_iload_n hx hb dX7_warm_68 rfl (lv_at hl 2 rfl) ?_
        refine g_iald hC V 3 rfl (vp_in_nI (by omega) (by omega)) (v := (nf2 j_1)) (congrArg _ (nI_clamp (by omega))) dX7_warm_69 ?_
        refine lv_isub hx hb dX7_warm_70 ?_
        refine lv_istore (lv' := [(4, .int (z_9 - (nf2 j_1))), (3, .int (ht - (nf3 j_1))), (0, .ref o), (1, .int (nI j_1)), (2, .int ht)]) hx hb dX7_warm_71 hl (by decide) rfl (fun ls hl => ?_)
        refine lv_iload hx hb dX7_warm_73 (lv_at hl 0 rfl) ?_
        refine lv_if_gt (tgt := 82) hx hb dX7_warm_75 (by decide) (fun c_10 => ?_) (fun c_10 => ?_)
        · skip
          have hgn : ∀ x : Int32, 0 < x → ¬ x = 0 := fun x h e => absurd (e ▸ h) (by decide +kernel)
          refine lv_iload_n hx hb dX7_warm_82 rfl (lv_at hl 1 rfl) ?_
          refine lv_iload hx hb dX7_warm_83 (lv_at hl 0 rfl) ?_
          refine lv_iadd hx hb dX7_warm_85 ?_
          refine lv_topi (fun x_11 ex_11 => ?_)
          refine lv_iconst (v := (nI 1)) hx hb dX7_warm_86 (by decide +kernel) ?_
          refine lv_isub hx hb dX7_warm_87 ?_
          refine lv_iload hx hb dX7_warm_88 (lv_at hl 0 rfl) ?_
          refine lv_idiv hx hb dX7_warm_90 (hgn _ (by assumption)) ?_
          refine lv_topi (fun x_12 ex_12 => ?_)
          exact g_iret (Qr := (q_x_warm T o i ht n0 s0 im iz rw t0 u0 h0 y0 sv nn nm nl no nu n1 n2 n3 n4 n5 n6 n7 n8 n9 n10 nf1 nf2 nf3 nf9)) hC V ⟨(Nat.le_of_ble_eq_true rfl), (Nat.le_of_ble_eq_true rfl)⟩ ⟨x_12, rfl, rfl⟩ dX7_warm_91
        · skip
          refine lv_iconst (v := (-1)) hx hb dX7_warm_78 (by decide +kernel) ?_
          refine lv_goto (tgt := 91) hx hb dX7_warm_79 (by decide) ?_
          exact g_iret (Qr := (q_x_warm T o i ht n0 s0 im iz rw t0 u0 h0 y0 sv nn nm nl no nu n1 n2 n3 n4 n5 n6 n7 n8 n9 n10 nf1 nf2 nf3 nf9)) hC V ⟨(Nat.le_of_ble_eq_true rfl), (Nat.le_of_ble_eq_true rfl)⟩ ⟨(-1), rfl, rfl⟩ dX7_warm_91
      · skip
        refine lv_iconst (v := (nI 0)) hx hb dX7_warm_44 (by decide +kernel) ?_
        exact g_iret (Qr := (q_x_warm T o i ht n0 s0 im iz rw t0 u0 h0 y0 sv nn nm nl no nu n1 n2 n3 n4 n5 n6 n7 n8 n9 n10 nf1 nf2 nf3 nf9)) hC V ⟨(Nat.le_of_ble_eq_true rfl), (Nat.le_of_ble_eq_true rfl)⟩ ⟨(nI 0), rfl, rfl⟩ dX7_warm_45
    · have V : gW D T A s [(o, .inr (7, [.ref n0, .ref s0, .ref im, .ref iz, .ref rw, .ref t0, .ref u0, .ref h0, .ref y0, sv])), (n0, .inr (5, [.int (nI nn), .int nm, .int nl, .int no, .int nu, .ref n1, .ref n2, .ref n3, .ref n4, .ref n5, .ref n6, .ref n7, .ref n8, .ref n9, .ref n10])), (n1, .inl (T 0, 10, .inl nf1)), (n2, .inl (T 0, 10, .inl nf2)), (n3, .inl (T 0, 10, .inl nf3)), (n9, .inl (T 0, 10, .inl nf9))] H locs := V _ [] rfl rfl rfl (by decide +kernel) rfl
      show W p l e _ s m args below meth c H locs _ _ _ (F0 m 22 ls [.int (nI 0)])
      refine lv_if_ne (tgt := 28) hx hb dX7_warm_22 (by decide) (fun c => absurd (show (nI 0) = 0 by decide +kernel) c) (fun _ => ?_)
      refine lv_bipush (v := (-3)) hx hb dX7_warm_25 (by decide +kernel) ?_
      exact g_iret (Qr := (q_x_warm T o i ht n0 s0 im iz rw t0 u0 h0 y0 sv nn nm nl no nu n1 n2 n3 n4 n5 n6 n7 n8 n9 n10 nf1 nf2 nf3 nf9)) hC V ⟨(Nat.le_of_ble_eq_true rfl), (Nat.le_of_ble_eq_true rfl)⟩ ⟨(-3), rfl, rfl⟩ dX7_warm_27
  · have V : gW D T A s [(o, .inr (7, [.ref n0, .ref s0, .ref im, .ref iz, .ref rw, .ref t0, .ref u0, .ref h0, .ref y0, sv])), (n0, .inr (5, [.int (nI nn), .int nm, .int nl, .int no, .int nu, .ref n1, .ref n2, .ref n3, .ref n4, .ref n5, .ref n6, .ref n7, .ref n8, .ref n9, .ref n10])), (n1, .inl (T 0, 10, .inl nf1)), (n2, .inl (T 0, 10, .inl nf2)), (n3, .inl (T 0, 10, .inl nf3)), (n9, .inl (T 0, 10, .inl nf9))] H locs := V _ [1] rfl rfl rfl (by decide +kernel) rfl
    show W p l e _ s m args below meth c H locs _ _ _ (F0 m 8 ls [.int (nI 0)])
    refine lv_if_ne (tgt := 14) hx hb dX7_warm_8 (by decide) (fun c => absurd (show (nI 0) = 0 by decide +kernel) c) (fun _ => ?_)
    refine lv_bipush (v := (-2)) hx hb dX7_warm_11 (by decide +kernel) ?_
    exact g_iret (Qr := (q_x_warm T o i ht n0 s0 im iz rw t0 u0 h0 y0 sv nn nm nl no nu n1 n2 n3 n4 n5 n6 n7 n8 n9 n10 nf1 nf2 nf3 nf9)) hC V ⟨(Nat.le_of_ble_eq_true rfl), (Nat.le_of_ble_eq_true rfl)⟩ ⟨(-2), rfl, rfl⟩ dX7_warm_13

def q_x_cold (T : Nat → ClassId) (o : Nat) (i : Int32) (n0 : Nat) (s0 : Nat) (im : Nat) (iz : Nat) (rw : Nat) (t0 : Nat) (u0 : Nat) (h0 : Nat) (y0 : Nat) (sv : Value) (nn : Nat) (nm : Int32) (nl : Int32) (no : Int32) (nu : Int32) (n1 : Nat) (n2 : Nat) (n3 : Nat) (n4 : Nat) (n5 : Nat) (n6 : Nat) (n7 : Nat) (n8 : Nat) (n9 : Nat) (n10 : Nat) (nf2 : Nat → Int32) (nf3 : Nat → Int32) (nf4 : Nat → Int32) : Option Value → va_W → Prop := fun rr ww => (∃ (z : Int32), rr = some (.int z) ∧ ww = [(o, .inr (7, [.ref n0, .ref s0, .ref im, .ref iz, .ref rw, .ref t0, .ref u0, .ref h0, .ref y0, sv])), (n0, .inr (5, [.int (nI nn), .int nm, .int nl, .int no, .int nu, .ref n1, .ref n2, .ref n3, .ref n4, .ref n5, .ref n6, .ref n7, .ref n8, .ref n9, .ref n10])), (n2, .inl (T 0, 10, .inl nf2)), (n3, .inl (T 0, 10, .inl nf3)), (n4, .inl (T 0, 10, .inl nf4))])
set_option maxHeartbeats 4000000 in
set_option maxRecDepth 100000 in
theorem x_cold (l : Launch) (D : va_G) (T : Nat → ClassId) (o : Nat) (i : Int32) (n0 : Nat) (s0 : Nat) (im : Nat) (iz : Nat) (rw : Nat) (t0 : Nat) (u0 : Nat) (h0 : Nat) (y0 : Nat) (sv : Value) (nn : Nat) (nm : Int32) (nl : Int32) (no : Int32) (nu : Int32) (n1 : Nat) (n2 : Nat) (n3 : Nat) (n4 : Nat) (n5 : Nat) (n6 : Nat) (n7 : Nat) (n8 : Nat) (n9 : Nat) (n10 : Nat) (nf2 : Nat → Int32) (nf3 : Nat → Int32) (nf4 : Nat → Int32) (h_n : nn ≤ 10) : Ct l yX7_cold cX7_cold 3 (some .int) 1 0 0 D T [.ref o, .int i] [(o, .inr (7, [.ref n0, .ref s0, .ref im, .ref iz, .ref rw, .ref t0, .ref u0, .ref h0, .ref y0, sv])), (n0, .inr (5, [.int (nI nn), .int nm, .int nl, .int no, .int nu, .ref n1, .ref n2, .ref n3, .ref n4, .ref n5, .ref n6, .ref n7, .ref n8, .ref n9, .ref n10])), (n2, .inl (T 0, 10, .inl nf2)), (n3, .inl (T 0, 10, .inl nf3)), (n4, .inl (T 0, 10, .inl nf4))] (q_x_cold T o i n0 s0 im iz rw t0 u0 h0 y0 sv nn nm nl no nu n1 n2 n3 n4 n5 n6 n7 n8 n9 n10 nf2 nf3 nf4) := by
  refine Ct.of (cc := cX7_cold) (maxL := 3) (ret := (some .int)) (by decide) (Nat.le_of_ble_eq_true rfl) ?_
  intro p e s m args below meth c A ls hC hnm V hl
  obtain ⟨hx, hb, hr, hml, hown, hts, hlocks⟩ := id hC
  generalize hH : s.heap = H at V ⊢
  clear hH
  have hl : lv_has ls 3 [(0, .ref o), (1, .int i)] := hl
  generalize hlo : ([] : List Loc) = locs at V ⊢
  clear hlo
  refine lv_aload_n hx hb dX7_cold_0 rfl (lv_at hl 0 rfl) ?_
  refine g_get hC V (ci := 7) uwX7 0 rfl rfl 0 (by decide) w_249 rfl rfl dX7_cold_1 ?_
  refine lv_iload_n hx hb dX7_cold_4 rfl (lv_at hl 1 rfl) ?_
  refine g_callVU (nA := 1) hC V hl.1 (s_isSmith l D T n0 i nn nm nl no nu n1 n2 n3 n4 n5 n6 n7 n8 n9 n10 (by first | assumption | omega)) w_425 w_426 w_427 w_3 w_428 (by decide +kernel) rfl ⟨(Nat.le_of_ble_eq_true rfl), (Nat.le_of_ble_eq_true rfl)⟩ 1 (ci := 5) rfl rfl [1] rfl rfl (Nat.le_of_ble_eq_true rfl) dX7_cold_5 ⟨(Nat.le_of_ble_eq_true rfl), (Nat.le_of_ble_eq_true rfl)⟩ rfl (fun r w1 H locs hQ V => ?_)
  rcases hQ with ⟨j_1, rfl, rfl, f_2, f_3⟩ | ⟨rfl, rfl, f_4⟩
  · have V : gW D T A s [(o, .inr (7, [.ref n0, .ref s0, .ref im, .ref iz, .ref rw, .ref t0, .ref u0, .ref h0, .ref y0, sv])), (n0, .inr (5, [.int (nI nn), .int nm, .int nl, .int no, .int nu, .ref n1, .ref n2, .ref n3, .ref n4, .ref n5, .ref n6, .ref n7, .ref n8, .ref n9, .ref n10])), (n2, .inl (T 0, 10, .inl nf2)), (n3, .inl (T 0, 10, .inl nf3)), (n4, .inl (T 0, 10, .inl nf4))] H locs := V _ [1] rfl rfl rfl (by decide +kernel) rfl
    show W p l e _ s m args below meth c H locs _ _ _ (F0 m 8 ls [.int (nI 1)])
    rw [f_2] at hl
    refine lv_if_ne (tgt := 14) hx hb dX7_cold_8 (by decide) (fun _ => ?_) (fun c => absurd (show (nI 1) = 0 from c) (by decide +kernel))
    refine lv_aload_n hx hb dX7_cold_14 rfl (lv_at hl 0 rfl) ?_
    refine g_get hC V (ci := 7) uwX7 0 rfl rfl 0 (by decide) w_249 rfl rfl dX7_cold_15 ?_
    refine g_get hC V (ci := 5) uwX5 1 rfl rfl 7 (by decide) w_65 rfl rfl dX7_cold_18 ?_
    refine lv_iload_n hx hb dX7_cold_21 rfl (lv_at hl 1 rfl) ?_
    refine g_iald hC V 3 rfl (vp_in_nI (by omega) (by omega)) (v := (nf3 j_1)) (congrArg _ (nI_clamp (by omega))) dX7_cold_22 ?_
    refine lv_aload_n hx hb dX7_cold_23 rfl (lv_at hl 0 rfl) ?_
    refine g_get hC V (ci := 7) uwX7 0 rfl rfl 0 (by decide) w_249 rfl rfl dX7_cold_24 ?_
    refine g_get hC V (ci := 5) uwX5 1 rfl rfl 8 (by decide) w_69 rfl rfl dX7_cold_27 ?_
    refine lv_iload_n hx hb dX7_cold_30 rfl (lv_at hl 1 rfl) ?_
    refine g_iald hC V 4 rfl (vp_in_nI (by omega) (by omega)) (v := (nf4 j_1)) (congrArg _ (nI_clamp (by omega))) dX7_cold_31 ?_
    refine lv_isub hx hb dX7_cold_32 ?_
    refine lv_istore_n (lv' := [(2, .int ((nf3 j_1) - (nf4 j_1))), (0, .ref o), (1, .int (nI j_1))]) hx hb dX7_cold_33 rfl hl (by decide) rfl (fun ls hl => ?_)
    refine lv_iload_n hx hb dX7_cold_34 rfl (lv_at hl 0 rfl) ?_
    refine lv_if_ge (tgt := 40) hx hb dX7_cold_35 (by decide) (fun c_5 => ?_) (fun c_5 => ?_)
    · skip
      refine lv_aload_n hx hb dX7_cold_40 rfl (lv_at hl 1 rfl) ?_
      refine g_get hC V (ci := 7) uwX7 0 rfl rfl 0 (by decide) w_249 rfl rfl dX7_cold_41 ?_
      refine g_get hC V (ci := 5) uwX5 1 rfl rfl 6 (by decide) w_60 rfl rfl dX7_cold_44 ?_
      refine lv_iload_n hx hb dX7_cold_47 rfl (lv_at hl 2 rfl) ?_
      refine g_iald hC V 2 rfl (vp_in_nI (by omega) (by omega)) (v := (nf2 j_1)) (congrArg _ (nI_clamp (by omega))) dX7_cold_48 ?_
      refine lv_if_le (tgt := 64) hx hb dX7_cold_49 (by decide) (fun c_6 => ?_) (fun c_6 => ?_)
      · skip
        refine lv_iconst (v := (-1)) hx hb dX7_cold_64 (by decide +kernel) ?_
        exact g_iret (Qr := (q_x_cold T o i n0 s0 im iz rw t0 u0 h0 y0 sv nn nm nl no nu n1 n2 n3 n4 n5 n6 n7 n8 n9 n10 nf2 nf3 nf4)) hC V ⟨(Nat.le_of_ble_eq_true rfl), (Nat.le_of_ble_eq_true rfl)⟩ ⟨(-1), rfl, rfl⟩ dX7_cold_65
      · skip
        have hgn : ¬ nf2 j_1 = 0 := fun e => c_6 (by rw [e]; decide +kernel)
        refine lv_aload_n hx hb dX7_cold_52 rfl (lv_at hl 1 rfl) ?_
        refine g_get hC V (ci := 7) uwX7 0 rfl rfl 0 (by decide) w_249 rfl rfl dX7_cold_53 ?_
        refine g_get hC V (ci := 5) uwX5 1 rfl rfl 8 (by decide) w_69 rfl rfl dX7_cold_56 ?_
        refine lv_iload_n hx hb dX7_cold_59 rfl (lv_at hl 2 rfl) ?_
        refine g_iald hC V 4 rfl (vp_in_nI (by omega) (by omega)) (v := (nf4 j_1)) (congrArg _ (nI_clamp (by omega))) dX7_cold_60 ?_
        refine lv_if_ne (tgt := 66) hx hb dX7_cold_61 (by decide) (fun c_7 => ?_) (fun c_7 => ?_)
        · skip
          refine lv_iload_n hx hb dX7_cold_66 rfl (lv_at hl 0 rfl) ?_
          refine lv_aload_n hx hb dX7_cold_67 rfl (lv_at hl 1 rfl) ?_
          refine g_get hC V (ci := 7) uwX7 0 rfl rfl 0 (by decide) w_249 rfl rfl dX7_cold_68 ?_
          refine g_get hC V (ci := 5) uwX5 1 rfl rfl 6 (by decide) w_60 rfl rfl dX7_cold_71 ?_
          refine lv_iload_n hx hb dX7_cold_74 rfl (lv_at hl 2 rfl) ?_
          refine g_iald hC V 2 rfl (vp_in_nI (by omega) (by omega)) (v := (nf2 j_1)) (congrArg _ (nI_clamp (by omega))) dX7_cold_75 ?_
          refine lv_idiv hx hb dX7_cold_76 (by assumption) ?_
          refine lv_iconst (v := (nI 1)) hx hb dX7_cold_77 (by decide +kernel) ?_
          refine lv_iadd hx hb dX7_cold_78 ?_
          exact g_iret (Qr := (q_x_cold T o i n0 s0 im iz rw t0 u0 h0 y0 sv nn nm nl no nu n1 n2 n3 n4 n5 n6 n7 n8 n9 n10 nf2 nf3 nf4)) hC V ⟨(Nat.le_of_ble_eq_true rfl), (Nat.le_of_ble_eq_true rfl)⟩ ⟨((((nf3 j_1) - (nf4 j_1)) / (nf2 j_1)) + (nI 1)), rfl, rfl⟩ dX7_cold_79
        · skip
          refine lv_iconst (v := (-1)) hx hb dX7_cold_64 (by decide +kernel) ?_
          exact g_iret (Qr := (q_x_cold T o i n0 s0 im iz rw t0 u0 h0 y0 sv nn nm nl no nu n1 n2 n3 n4 n5 n6 n7 n8 n9 n10 nf2 nf3 nf4)) hC V ⟨(Nat.le_of_ble_eq_true rfl), (Nat.le_of_ble_eq_true rfl)⟩ ⟨(-1), rfl, rfl⟩ dX7_cold_65
    · skip
      refine lv_iconst (v := (nI 0)) hx hb dX7_cold_38 (by decide +kernel) ?_
      exact g_iret (Qr := (q_x_cold T o i n0 s0 im iz rw t0 u0 h0 y0 sv nn nm nl no nu n1 n2 n3 n4 n5 n6 n7 n8 n9 n10 nf2 nf3 nf4)) hC V ⟨(Nat.le_of_ble_eq_true rfl), (Nat.le_of_ble_eq_true rfl)⟩ ⟨(nI 0), rfl, rfl⟩ dX7_cold_39
  · have V : gW D T A s [(o, .inr (7, [.ref n0, .ref s0, .ref im, .ref iz, .ref rw, .ref t0, .ref u0, .ref h0, .ref y0, sv])), (n0, .inr (5, [.int (nI nn), .int nm, .int nl, .int no, .int nu, .ref n1, .ref n2, .ref n3, .ref n4, .ref n5, .ref n6, .ref n7, .ref n8, .ref n9, .ref n10])), (n2, .inl (T 0, 10, .inl nf2)), (n3, .inl (T 0, 10, .inl nf3)), (n4, .inl (T 0, 10, .inl nf4))] H locs := V _ [1] rfl rfl rfl (by decide +kernel) rfl
    show W p l e _ s m args below meth c H locs _ _ _ (F0 m 8 ls [.int (nI 0)])
    refine lv_if_ne (tgt := 14) hx hb dX7_cold_8 (by decide) (fun c => absurd (show (nI 0) = 0 by decide +kernel) c) (fun _ => ?_)
    refine lv_bipush (v := (-2)) hx hb dX7_cold_11 (by decide +kernel) ?_
    exact g_iret (Qr := (q_x_cold T o i n0 s0 im iz rw t0 u0 h0 y0 sv nn nm nl no nu n1 n2 n3 n4 n5 n6 n7 n8 n9 n10 nf2 nf3 nf4)) hC V ⟨(Nat.le_of_ble_eq_true rfl), (Nat.le_of_ble_eq_true rfl)⟩ ⟨(-2), rfl, rfl⟩ dX7_cold_13

/-- what numbers(row, sort, n) answers -/
def numWhy (row sort n : Int32) : Int32 := if (row < 0 ∨ nI 4 ≤ row) ∨ (sort < nI 0 ∨ nI 3 < sort) then -2 else if n < nI 0 ∨ nI 40 < n then -3 else nI 0
theorem nw_1 {row sort n : Int32} (h : row < 0 ∨ nI 4 ≤ row) : -2 = numWhy row sort n := by simp [numWhy, h]
theorem nw_2 {row sort n : Int32} (h : sort < nI 0 ∨ nI 3 < sort) : -2 = numWhy row sort n := by simp [numWhy, h]
theorem nw_3 {row sort n : Int32} (h0 : ¬ row < 0) (h1 : ¬ nI 4 ≤ row) (h2 : ¬ sort < nI 0) (h3 : ¬ nI 3 < sort) (h : n < nI 0 ∨ nI 40 < n) : -3 = numWhy row sort n := by simp only [numWhy]; simp [h0, h1, h2, h3, h]
theorem nw_4 {row sort n : Int32} (h0 : ¬ row < 0) (h1 : ¬ nI 4 ≤ row) (h2 : ¬ sort < nI 0) (h3 : ¬ nI 3 < sort) (h4 : ¬ n < nI 0) (h5 : ¬ nI 40 < n) : nI 0 = numWhy row sort n := by simp only [numWhy]; simp [h0, h1, h2, h3, h4, h5]
