theorem pred_bd40 {n : Nat} {z : Int32} (hn : n ≤ 40) (h1 : ¬ z < nI 0) (h2 : ¬ nI n - nI 1 < z) : bd z n := by
  by_cases h0 : n = 0
  · subst h0
    exfalso
    have e : nI 0 - nI 1 = -1 := by decide +kernel
    rw [e] at h2
    rw [Int32.lt_iff_toInt_lt] at h1 h2
    have a1 : (nI 0).toInt = 0 := by decide +kernel
    have a2 : (-1 : Int32).toInt = -1 := by decide +kernel
    omega
  · rw [nI_sub (by omega)] at h2
    obtain ⟨j, hj1, hj2, e⟩ := g_rng (by decide) (by omega) h1 h2
    exact ⟨j, by omega, e⟩

def q_x_lazy (T : Nat → ClassId) (o : Nat) (i : Int32) (n : Int32) (n0 : Nat) (s0 : Nat) (im : Nat) (iz : Nat) (rw : Nat) (t0 : Nat) (u0 : Nat) (h0 : Nat) (y0 : Nat) (sv : Value) (nn : Nat) (nm : Int32) (nl : Int32) (no : Int32) (nu : Int32) (n1 : Nat) (n2 : Nat) (n3 : Nat) (n4 : Nat) (n5 : Nat) (n6 : Nat) (n7 : Nat) (n8 : Nat) (n9 : Nat) (n10 : Nat) (nf1 : Nat → Int32) (nf2 : Nat → Int32) (nf3 : Nat → Int32) (nf4 : Nat → Int32) (nf5 : Nat → Int32) (nf6 : Nat → Int32) (nf7 : Nat → Int32) (nf8 : Nat → Int32) (nf9 : Nat → Int32) (sn : Int32) (sm : Int32) (sl : Int32) (so : Int32) (su : Int32) (s1 : Nat) (s2 : Nat) (s3 : Nat) (s4 : Nat) (s5 : Nat) (s6 : Nat) (s7 : Nat) (s8 : Nat) (s9 : Nat) (s10 : Nat) (sf1 : Nat → Int32) (sf2 : Nat → Int32) (sf3 : Nat → Int32) (sf4 : Nat → Int32) (sf5 : Nat → Int32) (sf6 : Nat → Int32) (sf7 : Nat → Int32) (sf8 : Nat → Int32) (sf9 : Nat → Int32) (sf10 : Nat → Int32) : Option Value → va_W → Prop := fun rr ww => (∃ (z : Int32) (xn : Int32) (xm : Int32) (xl : Int32) (xo : Int32) (xu : Int32) (q1 : Nat → Int32) (q2 : Nat → Int32) (q3 : Nat → Int32) (q4 : Nat → Int32) (q5 : Nat → Int32) (q6 : Nat → Int32) (q7 : Nat → Int32) (q8 : Nat → Int32) (q9 : Nat → Int32) (q10 : Nat → Int32), rr = some (.int z) ∧ ww = [(o, .inr (7, [.ref n0, .ref s0, .ref im, .ref iz, .ref rw, .ref t0, .ref u0, .ref h0, .ref y0, sv])), (n0, .inr (5, [.int (nI nn), .int nm, .int nl, .int no, .int nu, .ref n1, .ref n2, .ref n3, .ref n4, .ref n5, .ref n6, .ref n7, .ref n8, .ref n9, .ref n10])), (n1, .inl (T 0, 10, .inl nf1)), (n2, .inl (T 0, 10, .inl nf2)), (n3, .inl (T 0, 10, .inl nf3)), (n4, .inl (T 0, 10, .inl nf4)), (n5, .inl (T 0, 10, .inl nf5)), (n6, .inl (T 0, 10, .inl nf6)), (n7, .inl (T 0, 10, .inl nf7)), (n8, .inl (T 0, 10, .inl nf8)), (n9, .inl (T 0, 10, .inl nf9)), (s0, .inr (5, [.int xn, .int xm, .int xl, .int xo, .int xu, .ref s1, .ref s2, .ref s3, .ref s4, .ref s5, .ref s6, .ref s7, .ref s8, .ref s9, .ref s10])), (s1, .inl (T 0, 10, .inl q1)), (s2, .inl (T 0, 10, .inl q2)), (s3, .inl (T 0, 10, .inl q3)), (s4, .inl (T 0, 10, .inl q4)), (s5, .inl (T 0, 10, .inl q5)), (s6, .inl (T 0, 10, .inl q6)), (s7, .inl (T 0, 10, .inl q7)), (s8, .inl (T 0, 10, .inl q8)), (s9, .inl (T 0, 10, .inl q9)), (s10, .inl (T 0, 10, .inl q10))])
set_option maxHeartbeats 4000000 in
set_option maxRecDepth 100000 in
theorem x_lazy (l : Launch) (D : va_G) (T : Nat → ClassId) (o : Nat) (i : Int32) (n : Int32) (n0 : Nat) (s0 : Nat) (im : Nat) (iz : Nat) (rw : Nat) (t0 : Nat) (u0 : Nat) (h0 : Nat) (y0 : Nat) (sv : Value) (nn : Nat) (nm : Int32) (nl : Int32) (no : Int32) (nu : Int32) (n1 : Nat) (n2 : Nat) (n3 : Nat) (n4 : Nat) (n5 : Nat) (n6 : Nat) (n7 : Nat) (n8 : Nat) (n9 : Nat) (n10 : Nat) (nf1 : Nat → Int32) (nf2 : Nat → Int32) (nf3 : Nat → Int32) (nf4 : Nat → Int32) (nf5 : Nat → Int32) (nf6 : Nat → Int32) (nf7 : Nat → Int32) (nf8 : Nat → Int32) (nf9 : Nat → Int32) (sn : Int32) (sm : Int32) (sl : Int32) (so : Int32) (su : Int32) (s1 : Nat) (s2 : Nat) (s3 : Nat) (s4 : Nat) (s5 : Nat) (s6 : Nat) (s7 : Nat) (s8 : Nat) (s9 : Nat) (s10 : Nat) (sf1 : Nat → Int32) (sf2 : Nat → Int32) (sf3 : Nat → Int32) (sf4 : Nat → Int32) (sf5 : Nat → Int32) (sf6 : Nat → Int32) (sf7 : Nat → Int32) (sf8 : Nat → Int32) (sf9 : Nat → Int32) (sf10 : Nat → Int32) (h_n : nn ≤ 10) (h_t : ∀ i, i < nn → bd (nf9 i) nn) : Ct l yX7_lazy cX7_lazy 4 (some .int) 6 0 0 D T [.ref o, .int i, .int n] [(o, .inr (7, [.ref n0, .ref s0, .ref im, .ref iz, .ref rw, .ref t0, .ref u0, .ref h0, .ref y0, sv])), (n0, .inr (5, [.int (nI nn), .int nm, .int nl, .int no, .int nu, .ref n1, .ref n2, .ref n3, .ref n4, .ref n5, .ref n6, .ref n7, .ref n8, .ref n9, .ref n10])), (n1, .inl (T 0, 10, .inl nf1)), (n2, .inl (T 0, 10, .inl nf2)), (n3, .inl (T 0, 10, .inl nf3)), (n4, .inl (T 0, 10, .inl nf4)), (n5, .inl (T 0, 10, .inl nf5)), (n6, .inl (T 0, 10, .inl nf6)), (n7, .inl (T 0, 10, .inl nf7)), (n8, .inl (T 0, 10, .inl nf8)), (n9, .inl (T 0, 10, .inl nf9)), (s0, .inr (5, [.int sn, .int sm, .int sl, .int so, .int su, .ref s1, .ref s2, .ref s3, .ref s4, .ref s5, .ref s6, .ref s7, .ref s8, .ref s9, .ref s10])), (s1, .inl (T 0, 10, .inl sf1)), (s2, .inl (T 0, 10, .inl sf2)), (s3, .inl (T 0, 10, .inl sf3)), (s4, .inl (T 0, 10, .inl sf4)), (s5, .inl (T 0, 10, .inl sf5)), (s6, .inl (T 0, 10, .inl sf6)), (s7, .inl (T 0, 10, .inl sf7)), (s8, .inl (T 0, 10, .inl sf8)), (s9, .inl (T 0, 10, .inl sf9)), (s10, .inl (T 0, 10, .inl sf10))] (q_x_lazy T o i n n0 s0 im iz rw t0 u0 h0 y0 sv nn nm nl no nu n1 n2 n3 n4 n5 n6 n7 n8 n9 n10 nf1 nf2 nf3 nf4 nf5 nf6 nf7 nf8 nf9 sn sm sl so su s1 s2 s3 s4 s5 s6 s7 s8 s9 s10 sf1 sf2 sf3 sf4 sf5 sf6 sf7 sf8 sf9 sf10) := by
  refine Ct.of (cc := cX7_lazy) (maxL := 4) (ret := (some .int)) (by decide) (Nat.le_of_ble_eq_true rfl) ?_
  intro p e s m args below meth c A ls hC hnm V hl
  obtain ⟨hx, hb, hr, hml, hown, hts, hlocks⟩ := id hC
  generalize hH : s.heap = H at V ⊢
  clear hH
  have hl : lv_has ls 4 [(0, .ref o), (1, .int i), (2, .int n)] := hl
  generalize hlo : ([] : List Loc) = locs at V ⊢
  clear hlo
  refine lv_aload_n hx hb dX7_lazy_0 rfl (lv_at hl 0 rfl) ?_
  refine g_get hC V (ci := 7) uwX7 0 rfl rfl 0 (by decide) w_249 rfl rfl dX7_lazy_1 ?_
  refine lv_iload_n hx hb dX7_lazy_4 rfl (lv_at hl 1 rfl) ?_
  refine g_callVU (nA := 1) hC V hl.1 (s_isSmith l D T n0 i nn nm nl no nu n1 n2 n3 n4 n5 n6 n7 n8 n9 n10 (by first | assumption | omega)) w_425 w_426 w_427 w_3 w_428 (by decide +kernel) rfl ⟨(Nat.le_of_ble_eq_true rfl), (Nat.le_of_ble_eq_true rfl)⟩ 1 (ci := 5) rfl rfl [1] rfl rfl (Nat.le_of_ble_eq_true rfl) dX7_lazy_5 ⟨(Nat.le_of_ble_eq_true rfl), (Nat.le_of_ble_eq_true rfl)⟩ rfl (fun r w1 H locs hQ V => ?_)
  rcases hQ with ⟨j_1, rfl, rfl, f_2, f_3⟩ | ⟨rfl, rfl, f_4⟩
  · have V : gW D T A s [(o, .inr (7, [.ref n0, .ref s0, .ref im, .ref iz, .ref rw, .ref t0, .ref u0, .ref h0, .ref y0, sv])), (n0, .inr (5, [.int (nI nn), .int nm, .int nl, .int no, .int nu, .ref n1, .ref n2, .ref n3, .ref n4, .ref n5, .ref n6, .ref n7, .ref n8, .ref n9, .ref n10])), (n1, .inl (T 0, 10, .inl nf1)), (n2, .inl (T 0, 10, .inl nf2)), (n3, .inl (T 0, 10, .inl nf3)), (n4, .inl (T 0, 10, .inl nf4)), (n5, .inl (T 0, 10, .inl nf5)), (n6, .inl (T 0, 10, .inl nf6)), (n7, .inl (T 0, 10, .inl nf7)), (n8, .inl (T 0, 10, .inl nf8)), (n9, .inl (T 0, 10, .inl nf9)), (s0, .inr (5, [.int sn, .int sm, .int sl, .int so, .int su, .ref s1, .ref s2, .ref s3, .ref s4, .ref s5, .ref s6, .ref s7, .ref s8, .ref s9, .ref s10])), (s1, .inl (T 0, 10, .inl sf1)), (s2, .inl (T 0, 10, .inl sf2)), (s3, .inl (T 0, 10, .inl sf3)), (s4, .inl (T 0, 10, .inl sf4)), (s5, .inl (T 0, 10, .inl sf5)), (s6, .inl (T 0, 10, .inl sf6)), (s7, .inl (T 0, 10, .inl sf7)), (s8, .inl (T 0, 10, .inl sf8)), (s9, .inl (T 0, 10, .inl sf9)), (s10, .inl (T 0, 10, .inl sf10))] H locs := V _ [1] rfl rfl rfl (by decide +kernel) rfl
    show W p l e _ s m args below meth c H locs _ _ _ (F0 m 8 ls [.int (nI 1)])
    rw [f_2] at hl
    refine lv_if_ne (tgt := 14) hx hb dX7_lazy_8 (by decide) (fun _ => ?_) (fun c => absurd (show (nI 1) = 0 from c) (by decide +kernel))
    refine lv_aload_n hx hb dX7_lazy_14 rfl (lv_at hl 0 rfl) ?_
    refine lv_iload_n hx hb dX7_lazy_15 rfl (lv_at hl 2 rfl) ?_
    refine lv_sipush (v := (nI 200)) hx hb dX7_lazy_16 (by decide +kernel) ?_
    refine g_callVU (nA := 2) hC V hl.1 (x_refusedMinutes l D T o n 200 n0 s0 im iz rw t0 u0 h0 y0 sv nn nm nl no nu n1 n2 n3 n4 n5 n6 n7 n8 n9 n10 (by first | assumption | omega)) w_532 w_534 w_s12 w_2 w_535 (by decide +kernel) rfl ⟨(Nat.le_of_ble_eq_true rfl), (Nat.le_of_ble_eq_true rfl)⟩ 0 (ci := 7) rfl rfl [0, 1] rfl rfl (Nat.le_of_ble_eq_true rfl) dX7_lazy_19 ⟨(Nat.le_of_ble_eq_true rfl), (Nat.le_of_ble_eq_true rfl)⟩ rfl (fun r w1 H locs hQ V => ?_)
    rcases hQ with ⟨j_5, rfl, rfl, f_6, f_7, f_8⟩ | ⟨z_9, rfl, rfl, f_10⟩
    · have V : gW D T A s [(o, .inr (7, [.ref n0, .ref s0, .ref im, .ref iz, .ref rw, .ref t0, .ref u0, .ref h0, .ref y0, sv])), (n0, .inr (5, [.int (nI nn), .int nm, .int nl, .int no, .int nu, .ref n1, .ref n2, .ref n3, .ref n4, .ref n5, .ref n6, .ref n7, .ref n8, .ref n9, .ref n10])), (n1, .inl (T 0, 10, .inl nf1)), (n2, .inl (T 0, 10, .inl nf2)), (n3, .inl (T 0, 10, .inl nf3)), (n4, .inl (T 0, 10, .inl nf4)), (n5, .inl (T 0, 10, .inl nf5)), (n6, .inl (T 0, 10, .inl nf6)), (n7, .inl (T 0, 10, .inl nf7)), (n8, .inl (T 0, 10, .inl nf8)), (n9, .inl (T 0, 10, .inl nf9)), (s0, .inr (5, [.int sn, .int sm, .int sl, .int so, .int su, .ref s1, .ref s2, .ref s3, .ref s4, .ref s5, .ref s6, .ref s7, .ref s8, .ref s9, .ref s10])), (s1, .inl (T 0, 10, .inl sf1)), (s2, .inl (T 0, 10, .inl sf2)), (s3, .inl (T 0, 10, .inl sf3)), (s4, .inl (T 0, 10, .inl sf4)), (s5, .inl (T 0, 10, .inl sf5)), (s6, .inl (T 0, 10, .inl sf6)), (s7, .inl (T 0, 10, .inl sf7)), (s8, .inl (T 0, 10, .inl sf8)), (s9, .inl (T 0, 10, .inl sf9)), (s10, .inl (T 0, 10, .inl sf10))] H locs := V _ [0, 0] rfl rfl rfl (by decide +kernel) rfl
      show W p l e _ s m args below meth c H locs _ _ _ (F0 m 22 ls [.int (nI 0)])
      rw [f_8] at hl
      refine lv_istore_n (lv' := [(3, .int (nI 0)), (0, .ref o), (1, .int (nI j_1)), (2, .int (nI j_5))]) hx hb dX7_lazy_22 rfl hl (by decide) rfl (fun ls hl => ?_)
      refine lv_iload_n hx hb dX7_lazy_23 rfl (lv_at hl 0 rfl) ?_
      refine lv_if_eq (tgt := 29) hx hb dX7_lazy_24 (by decide) (fun _ => ?_) (fun c => absurd (show (nI 0) = 0 by decide +kernel) c)
      refine lv_aload_n hx hb dX7_lazy_29 rfl (lv_at hl 1 rfl) ?_
      refine lv_iload_n hx hb dX7_lazy_30 rfl (lv_at hl 3 rfl) ?_
      refine lv_iconst (v := (nI 0)) hx hb dX7_lazy_31 (by decide +kernel) ?_
      refine lv_iconst (v := (-1)) hx hb dX7_lazy_32 (by decide +kernel) ?_
      refine lv_iconst (v := (nI 0)) hx hb dX7_lazy_33 (by decide +kernel) ?_
      refine g_callV (wr := []) (nA := 4) hC V hl.1 (x_doneByCustom l D T o j_5 (nI 0) (-1) (nI 0) n0 s0 im iz rw t0 u0 h0 y0 sv nn nm nl no nu n1 n2 n3 n4 n5 n6 n7 n8 n9 n10 nf1 nf2 nf3 nf4 nf5 nf6 nf7 nf8 nf9 sn sm sl so su s1 s2 s3 s4 s5 s6 s7 s8 s9 s10 sf1 sf2 sf3 sf4 sf5 sf6 sf7 sf8 sf9 sf10 (by first | assumption | omega) (by first | assumption | omega) (by first | assumption | omega)) w_536 w_538 w_s13 w_2 w_539 (by decide +kernel) rfl ⟨(Nat.le_of_ble_eq_true rfl), (Nat.le_of_ble_eq_true rfl)⟩ 0 (ci := 7) rfl rfl [0, 1, 2, 3, 4, 5, 6, 7, 8, 9, 10, 11, 12, 13, 14, 15, 16, 17, 18, 19, 20, 21] [] rfl rfl rfl rfl (by decide) (Nat.le_of_ble_eq_true rfl) dX7_lazy_34 ⟨(Nat.le_of_ble_eq_true rfl), (Nat.le_of_ble_eq_true rfl)⟩ rfl (fun r w1 H locs hQ V => ?_)
      obtain ⟨z_11, xm_12, xl_13, xo_14, xu_15, q1_16, q2_17, q3_18, q4_19, q5_20, q6_21, q7_22, q8_23, q9_24, q10_25, rfl, rfl⟩ := hQ
      have V : gW D T A s [(o, .inr (7, [.ref n0, .ref s0, .ref im, .ref iz, .ref rw, .ref t0, .ref u0, .ref h0, .ref y0, sv])), (n0, .inr (5, [.int (nI nn), .int nm, .int nl, .int no, .int nu, .ref n1, .ref n2, .ref n3, .ref n4, .ref n5, .ref n6, .ref n7, .ref n8, .ref n9, .ref n10])), (n1, .inl (T 0, 10, .inl nf1)), (n2, .inl (T 0, 10, .inl nf2)), (n3, .inl (T 0, 10, .inl nf3)), (n4, .inl (T 0, 10, .inl nf4)), (n5, .inl (T 0, 10, .inl nf5)), (n6, .inl (T 0, 10, .inl nf6)), (n7, .inl (T 0, 10, .inl nf7)), (n8, .inl (T 0, 10, .inl nf8)), (n9, .inl (T 0, 10, .inl nf9)), (s0, .inr (5, [.int (nI nn), .int xm_12, .int xl_13, .int xo_14, .int xu_15, .ref s1, .ref s2, .ref s3, .ref s4, .ref s5, .ref s6, .ref s7, .ref s8, .ref s9, .ref s10])), (s1, .inl (T 0, 10, .inl q1_16)), (s2, .inl (T 0, 10, .inl q2_17)), (s3, .inl (T 0, 10, .inl q3_18)), (s4, .inl (T 0, 10, .inl q4_19)), (s5, .inl (T 0, 10, .inl q5_20)), (s6, .inl (T 0, 10, .inl q6_21)), (s7, .inl (T 0, 10, .inl q7_22)), (s8, .inl (T 0, 10, .inl q8_23)), (s9, .inl (T 0, 10, .inl q9_24)), (s10, .inl (T 0, 10, .inl q10_25))] H locs := V
      show W p l e _ s m args below meth c H locs _ _ _ (F0 m 37 ls [.int z_11])
      refine lv_aload_n hx hb dX7_lazy_37 rfl (lv_at hl 1 rfl) ?_
      refine lv_iload_n hx hb dX7_lazy_38 rfl (lv_at hl 3 rfl) ?_
      refine lv_iconst (v := (nI 1)) hx hb dX7_lazy_39 (by decide +kernel) ?_
      refine lv_iload_n hx hb dX7_lazy_40 rfl (lv_at hl 2 rfl) ?_
      refine lv_ishl hx hb dX7_lazy_41 ?_
      refine lv_iconst (v := (-1)) hx hb dX7_lazy_42 (by decide +kernel) ?_
      refine lv_iconst (v := (nI 0)) hx hb dX7_lazy_43 (by decide +kernel) ?_
      refine g_callV (wr := []) (nA := 4) hC V hl.1 (x_doneByCustom l D T o j_5 ((nI 1) <<< ((nI j_1) &&& 31)) (-1) (nI 0) n0 s0 im iz rw t0 u0 h0 y0 sv nn nm nl no nu n1 n2 n3 n4 n5 n6 n7 n8 n9 n10 nf1 nf2 nf3 nf4 nf5 nf6 nf7 nf8 nf9 (nI nn) xm_12 xl_13 xo_14 xu_15 s1 s2 s3 s4 s5 s6 s7 s8 s9 s10 q1_16 q2_17 q3_18 q4_19 q5_20 q6_21 q7_22 q8_23 q9_24 q10_25 (by first | assumption | omega) (by first | assumption | omega) (by first | assumption | omega)) w_536 w_538 w_s13 w_2 w_539 (by decide +kernel) rfl ⟨(Nat.le_of_ble_eq_true rfl), (Nat.le_of_ble_eq_true rfl)⟩ 0 (ci := 7) rfl rfl [0, 1, 2, 3, 4, 5, 6, 7, 8, 9, 10, 11, 12, 13, 14, 15, 16, 17, 18, 19, 20, 21] [] rfl rfl rfl rfl (by decide) (Nat.le_of_ble_eq_true rfl) dX7_lazy_44 ⟨(Nat.le_of_ble_eq_true rfl), (Nat.le_of_ble_eq_true rfl)⟩ rfl (fun r w1 H locs hQ V => ?_)
      obtain ⟨z_26, xm_27, xl_28, xo_29, xu_30, q1_31, q2_32, q3_33, q4_34, q5_35, q6_36, q7_37, q8_38, q9_39, q10_40, rfl, rfl⟩ := hQ
      have V : gW D T A s [(o, .inr (7, [.ref n0, .ref s0, .ref im, .ref iz, .ref rw, .ref t0, .ref u0, .ref h0, .ref y0, sv])), (n0, .inr (5, [.int (nI nn), .int nm, .int nl, .int no, .int nu, .ref n1, .ref n2, .ref n3, .ref n4, .ref n5, .ref n6, .ref n7, .ref n8, .ref n9, .ref n10])), (n1, .inl (T 0, 10, .inl nf1)), (n2, .inl (T 0, 10, .inl nf2)), (n3, .inl (T 0, 10, .inl nf3)), (n4, .inl (T 0, 10, .inl nf4)), (n5, .inl (T 0, 10, .inl nf5)), (n6, .inl (T 0, 10, .inl nf6)), (n7, .inl (T 0, 10, .inl nf7)), (n8, .inl (T 0, 10, .inl nf8)), (n9, .inl (T 0, 10, .inl nf9)), (s0, .inr (5, [.int (nI nn), .int xm_27, .int xl_28, .int xo_29, .int xu_30, .ref s1, .ref s2, .ref s3, .ref s4, .ref s5, .ref s6, .ref s7, .ref s8, .ref s9, .ref s10])), (s1, .inl (T 0, 10, .inl q1_31)), (s2, .inl (T 0, 10, .inl q2_32)), (s3, .inl (T 0, 10, .inl q3_33)), (s4, .inl (T 0, 10, .inl q4_34)), (s5, .inl (T 0, 10, .inl q5_35)), (s6, .inl (T 0, 10, .inl q6_36)), (s7, .inl (T 0, 10, .inl q7_37)), (s8, .inl (T 0, 10, .inl q8_38)), (s9, .inl (T 0, 10, .inl q9_39)), (s10, .inl (T 0, 10, .inl q10_40))] H locs := V
      show W p l e _ s m args below meth c H locs _ _ _ (F0 m 47 ls [.int z_26, .int z_11])
      refine lv_isub hx hb dX7_lazy_47 ?_
      exact g_iret (Qr := (q_x_lazy T o i n n0 s0 im iz rw t0 u0 h0 y0 sv nn nm nl no nu n1 n2 n3 n4 n5 n6 n7 n8 n9 n10 nf1 nf2 nf3 nf4 nf5 nf6 nf7 nf8 nf9 sn sm sl so su s1 s2 s3 s4 s5 s6 s7 s8 s9 s10 sf1 sf2 sf3 sf4 sf5 sf6 sf7 sf8 sf9 sf10)) hC V ⟨(Nat.le_of_ble_eq_true rfl), (Nat.le_of_ble_eq_true rfl)⟩ ⟨(z_11 - z_26), (nI nn), xm_27, xl_28, xo_29, xu_30, q1_31, q2_32, q3_33, q4_34, q5_35, q6_36, q7_37, q8_38, q9_39, q10_40, rfl, rfl⟩ dX7_lazy_48
    · have V : gW D T A s [(o, .inr (7, [.ref n0, .ref s0, .ref im, .ref iz, .ref rw, .ref t0, .ref u0, .ref h0, .ref y0, sv])), (n0, .inr (5, [.int (nI nn), .int nm, .int nl, .int no, .int nu, .ref n1, .ref n2, .ref n3, .ref n4, .ref n5, .ref n6, .ref n7, .ref n8, .ref n9, .ref n10])), (n1, .inl (T 0, 10, .inl nf1)), (n2, .inl (T 0, 10, .inl nf2)), (n3, .inl (T 0, 10, .inl nf3)), (n4, .inl (T 0, 10, .inl nf4)), (n5, .inl (T 0, 10, .inl nf5)), (n6, .inl (T 0, 10, .inl nf6)), (n7, .inl (T 0, 10, .inl nf7)), (n8, .inl (T 0, 10, .inl nf8)), (n9, .inl (T 0, 10, .inl nf9)), (s0, .inr (5, [.int sn, .int sm, .int sl, .int so, .int su, .ref s1, .ref s2, .ref s3, .ref s4, .ref s5, .ref s6, .ref s7, .ref s8, .ref s9, .ref s10])), (s1, .inl (T 0, 10, .inl sf1)), (s2, .inl (T 0, 10, .inl sf2)), (s3, .inl (T 0, 10, .inl sf3)), (s4, .inl (T 0, 10, .inl sf4)), (s5, .inl (T 0, 10, .inl sf5)), (s6, .inl (T 0, 10, .inl sf6)), (s7, .inl (T 0, 10, .inl sf7)), (s8, .inl (T 0, 10, .inl sf8)), (s9, .inl (T 0, 10, .inl sf9)), (s10, .inl (T 0, 10, .inl sf10))] H locs := V _ [0, 0] rfl rfl rfl (by decide +kernel) rfl
      show W p l e _ s m args below meth c H locs _ _ _ (F0 m 22 ls [.int z_9])
      refine lv_istore_n (lv' := [(3, .int z_9), (0, .ref o), (1, .int (nI j_1)), (2, .int n)]) hx hb dX7_lazy_22 rfl hl (by decide) rfl (fun ls hl => ?_)
      refine lv_iload_n hx hb dX7_lazy_23 rfl (lv_at hl 0 rfl) ?_
      refine lv_if_eq (tgt := 29) hx hb dX7_lazy_24 (by decide) (fun c_41 => ?_) (fun c_41 => ?_)
      · skip
        exact (absurd c_41 (by assumption) : False).elim
      · skip
        refine lv_iload_n hx hb dX7_lazy_27 rfl (lv_at hl 0 rfl) ?_
        exact g_iret (Qr := (q_x_lazy T o i n n0 s0 im iz rw t0 u0 h0 y0 sv nn nm nl no nu n1 n2 n3 n4 n5 n6 n7 n8 n9 n10 nf1 nf2 nf3 nf4 nf5 nf6 nf7 nf8 nf9 sn sm sl so su s1 s2 s3 s4 s5 s6 s7 s8 s9 s10 sf1 sf2 sf3 sf4 sf5 sf6 sf7 sf8 sf9 sf10)) hC V ⟨(Nat.le_of_ble_eq_true rfl), (Nat.le_of_ble_eq_true rfl)⟩ ⟨z_9, sn, sm, sl, so, su, sf1, sf2, sf3, sf4, sf5, sf6, sf7, sf8, sf9, sf10, rfl, rfl⟩ dX7_lazy_28
  · have V : gW D T A s [(o, .inr (7, [.ref n0, .ref s0, .ref im, .ref iz, .ref rw, .ref t0, .ref u0, .ref h0, .ref y0, sv])), (n0, .inr (5, [.int (nI nn), .int nm, .int nl, .int no, .int nu, .ref n1, .ref n2, .ref n3, .ref n4, .ref n5, .ref n6, .ref n7, .ref n8, .ref n9, .ref n10])), (n1, .inl (T 0, 10, .inl nf1)), (n2, .inl (T 0, 10, .inl nf2)), (n3, .inl (T 0, 10, .inl nf3)), (n4, .inl (T 0, 10, .inl nf4)), (n5, .inl (T 0, 10, .inl nf5)), (n6, .inl (T 0, 10, .inl nf6)), (n7, .inl (T 0, 10, .inl nf7)), (n8, .inl (T 0, 10, .inl nf8)), (n9, .inl (T 0, 10, .inl nf9)), (s0, .inr (5, [.int sn, .int sm, .int sl, .int so, .int su, .ref s1, .ref s2, .ref s3, .ref s4, .ref s5, .ref s6, .ref s7, .ref s8, .ref s9, .ref s10])), (s1, .inl (T 0, 10, .inl sf1)), (s2, .inl (T 0, 10, .inl sf2)), (s3, .inl (T 0, 10, .inl sf3)), (s4, .inl (T 0, 10, .inl sf4)), (s5, .inl (T 0, 10, .inl sf5)), (s6, .inl (T 0, 10, .inl sf6)), (s7, .inl (T 0, 10, .inl sf7)), (s8, .inl (T 0, 10, .inl sf8)), (s9, .inl (T 0, 10, .inl sf9)), (s10, .inl (T 0, 10, .inl sf10))] H locs := V _ [1] rfl rfl rfl (by decide +kernel) rfl
    show W p l e _ s m args below meth c H locs _ _ _ (F0 m 8 ls [.int (nI 0)])
    refine lv_if_ne (tgt := 14) hx hb dX7_lazy_8 (by decide) (fun c => absurd (show (nI 0) = 0 by decide +kernel) c) (fun _ => ?_)
    refine lv_bipush (v := (-2)) hx hb dX7_lazy_11 (by decide +kernel) ?_
    exact g_iret (Qr := (q_x_lazy T o i n n0 s0 im iz rw t0 u0 h0 y0 sv nn nm nl no nu n1 n2 n3 n4 n5 n6 n7 n8 n9 n10 nf1 nf2 nf3 nf4 nf5 nf6 nf7 nf8 nf9 sn sm sl so su s1 s2 s3 s4 s5 s6 s7 s8 s9 s10 sf1 sf2 sf3 sf4 sf5 sf6 sf7 sf8 sf9 sf10)) hC V ⟨(Nat.le_of_ble_eq_true rfl), (Nat.le_of_ble_eq_true rfl)⟩ ⟨(-2), sn, sm, sl, so, su, sf1, sf2, sf3, sf4, sf5, sf6, sf7, sf8, sf9, sf10, rfl, rfl⟩ dX7_lazy_13

def q_x_refusedStranger (T : Nat → ClassId) (o : Nat) (bl : Int32) (v : Int32) (n0 : Nat) (s0 : Nat) (im : Nat) (iz : Nat) (rw : Nat) (t0 : Nat) (u0 : Nat) (h0 : Nat) (y0 : Nat) (sv : Value) (nn : Nat) (nm : Int32) (nl : Int32) (no : Int32) (nu : Int32) (n1 : Nat) (n2 : Nat) (n3 : Nat) (n4 : Nat) (n5 : Nat) (n6 : Nat) (n7 : Nat) (n8 : Nat) (n9 : Nat) (n10 : Nat) : Option Value → va_W → Prop := fun rr ww => (∃ (j : Nat), rr = some (.int (nI 0)) ∧ ww = [(o, .inr (7, [.ref n0, .ref s0, .ref im, .ref iz, .ref rw, .ref t0, .ref u0, .ref h0, .ref y0, sv])), (n0, .inr (5, [.int (nI nn), .int nm, .int nl, .int no, .int nu, .ref n1, .ref n2, .ref n3, .ref n4, .ref n5, .ref n6, .ref n7, .ref n8, .ref n9, .ref n10]))] ∧ 1 ≤ j ∧ j ≤ 200 ∧ v = nI j) ∨ (∃ (z : Int32), rr = some (.int z) ∧ ww = [(o, .inr (7, [.ref n0, .ref s0, .ref im, .ref iz, .ref rw, .ref t0, .ref u0, .ref h0, .ref y0, sv])), (n0, .inr (5, [.int (nI nn), .int nm, .int nl, .int no, .int nu, .ref n1, .ref n2, .ref n3, .ref n4, .ref n5, .ref n6, .ref n7, .ref n8, .ref n9, .ref n10]))] ∧ ¬ z = 0)
set_option maxHeartbeats 4000000 in
set_option maxRecDepth 100000 in
theorem x_refusedStranger (l : Launch) (D : va_G) (T : Nat → ClassId) (o : Nat) (bl : Int32) (v : Int32) (n0 : Nat) (s0 : Nat) (im : Nat) (iz : Nat) (rw : Nat) (t0 : Nat) (u0 : Nat) (h0 : Nat) (y0 : Nat) (sv : Value) (nn : Nat) (nm : Int32) (nl : Int32) (no : Int32) (nu : Int32) (n1 : Nat) (n2 : Nat) (n3 : Nat) (n4 : Nat) (n5 : Nat) (n6 : Nat) (n7 : Nat) (n8 : Nat) (n9 : Nat) (n10 : Nat) : Ct l yX7_refusedStranger cX7_refusedStranger 3 (some .int) 2 0 0 D T [.ref o, .int bl, .int v] [(o, .inr (7, [.ref n0, .ref s0, .ref im, .ref iz, .ref rw, .ref t0, .ref u0, .ref h0, .ref y0, sv])), (n0, .inr (5, [.int (nI nn), .int nm, .int nl, .int no, .int nu, .ref n1, .ref n2, .ref n3, .ref n4, .ref n5, .ref n6, .ref n7, .ref n8, .ref n9, .ref n10]))] (q_x_refusedStranger T o bl v n0 s0 im iz rw t0 u0 h0 y0 sv nn nm nl no nu n1 n2 n3 n4 n5 n6 n7 n8 n9 n10) := by
  refine Ct.of (cc := cX7_refusedStranger) (maxL := 3) (ret := (some .int)) (by decide) (Nat.le_of_ble_eq_true rfl) ?_
  intro p e s m args below meth c A ls hC hnm V hl
  obtain ⟨hx, hb, hr, hml, hown, hts, hlocks⟩ := id hC
  generalize hH : s.heap = H at V ⊢
  clear hH
  have hl : lv_has ls 3 [(0, .ref o), (1, .int bl), (2, .int v)] := hl
  generalize hlo : ([] : List Loc) = locs at V ⊢
  clear hlo
  refine lv_iload_n hx hb dX7_refusedStranger_0 rfl (lv_at hl 1 rfl) ?_
  refine lv_iconst (v := (nI 0)) hx hb dX7_refusedStranger_1 (by decide +kernel) ?_
  refine lv_bipush (v := (nI 60)) hx hb dX7_refusedStranger_2 (by decide +kernel) ?_
  refine g_callSU (nA := 3) hC V hl.1 (c_isWithin l D T bl (nI 0) (nI 60)) w_292 w_293 w_2 w_294 (by decide +kernel) rfl ⟨(Nat.le_of_ble_eq_true rfl), (Nat.le_of_ble_eq_true rfl)⟩ [] rfl rfl (Nat.le_of_ble_eq_true rfl) dX7_refusedStranger_4 ⟨(Nat.le_of_ble_eq_true rfl), (Nat.le_of_ble_eq_true rfl)⟩ rfl (fun r w1 H locs hQ V => ?_)
  rcases hQ with ⟨rfl, rfl, f_1, f_2⟩ | ⟨rfl, rfl, f_3⟩
  · have V : gW D T A s [(o, .inr (7, [.ref n0, .ref s0, .ref im, .ref iz, .ref rw, .ref t0, .ref u0, .ref h0, .ref y0, sv])), (n0, .inr (5, [.int (nI nn), .int nm, .int nl, .int no, .int nu, .ref n1, .ref n2, .ref n3, .ref n4, .ref n5, .ref n6, .ref n7, .ref n8, .ref n9, .ref n10]))] H locs := V _ [] rfl rfl rfl (by decide +kernel) rfl
    show W p l e _ s m args below meth c H locs _ _ _ (F0 m 7 ls [.int (nI 1)])
    refine lv_if_eq (tgt := 21) hx hb dX7_refusedStranger_7 (by decide) (fun c => absurd (show (nI 1) = 0 from c) (by decide +kernel)) (fun _ => ?_)
    refine lv_aload_n hx hb dX7_refusedStranger_10 rfl (lv_at hl 0 rfl) ?_
    refine lv_iload_n hx hb dX7_refusedStranger_11 rfl (lv_at hl 2 rfl) ?_
    refine lv_sipush (v := (nI 200)) hx hb dX7_refusedStranger_12 (by decide +kernel) ?_
    refine g_callV (wr := []) (nA := 2) hC V hl.1 (x_refusedMinutes l D T o v 200 n0 s0 im iz rw t0 u0 h0 y0 sv nn nm nl no nu n1 n2 n3 n4 n5 n6 n7 n8 n9 n10 (by first | assumption | omega)) w_532 w_534 w_s12 w_2 w_535 (by decide +kernel) rfl ⟨(Nat.le_of_ble_eq_true rfl), (Nat.le_of_ble_eq_true rfl)⟩ 0 (ci := 7) rfl rfl [0, 1] [] rfl rfl rfl rfl (by decide) (Nat.le_of_ble_eq_true rfl) dX7_refusedStranger_15 ⟨(Nat.le_of_ble_eq_true rfl), (Nat.le_of_ble_eq_true rfl)⟩ rfl (fun r w1 H locs hQ V => ?_)
    rcases hQ with ⟨jr, rfl, rfl, f_4, f_5, f_6⟩ | ⟨z_7, rfl, rfl, f_8⟩
    · have V : gW D T A s [(o, .inr (7, [.ref n0, .ref s0, .ref im, .ref iz, .ref rw, .ref t0, .ref u0, .ref h0, .ref y0, sv])), (n0, .inr (5, [.int (nI nn), .int nm, .int nl, .int no, .int nu, .ref n1, .ref n2, .ref n3, .ref n4, .ref n5, .ref n6, .ref n7, .ref n8, .ref n9, .ref n10]))] H locs := V
      show W p l e _ s m args below meth c H locs _ _ _ (F0 m 18 ls [.int (nI 0)])
      refine lv_goto (tgt := 23) hx hb dX7_refusedStranger_18 (by decide) ?_
      exact g_iret (Qr := (q_x_refusedStranger T o bl v n0 s0 im iz rw t0 u0 h0 y0 sv nn nm nl no nu n1 n2 n3 n4 n5 n6 n7 n8 n9 n10)) hC V ⟨(Nat.le_of_ble_eq_true rfl), (Nat.le_of_ble_eq_true rfl)⟩ (.inl ⟨jr, rfl, rfl, (by assumption), (by assumption), (by assumption)⟩) dX7_refusedStranger_23
    · have V : gW D T A s [(o, .inr (7, [.ref n0, .ref s0, .ref im, .ref iz, .ref rw, .ref t0, .ref u0, .ref h0, .ref y0, sv])), (n0, .inr (5, [.int (nI nn), .int nm, .int nl, .int no, .int nu, .ref n1, .ref n2, .ref n3, .ref n4, .ref n5, .ref n6, .ref n7, .ref n8, .ref n9, .ref n10]))] H locs := V
      show W p l e _ s m args below meth c H locs _ _ _ (F0 m 18 ls [.int z_7])
      refine lv_goto (tgt := 23) hx hb dX7_refusedStranger_18 (by decide) ?_
      exact g_iret (Qr := (q_x_refusedStranger T o bl v n0 s0 im iz rw t0 u0 h0 y0 sv nn nm nl no nu n1 n2 n3 n4 n5 n6 n7 n8 n9 n10)) hC V ⟨(Nat.le_of_ble_eq_true rfl), (Nat.le_of_ble_eq_true rfl)⟩ (.inr ⟨z_7, rfl, rfl, (by first | assumption | decide +kernel)⟩) dX7_refusedStranger_23
  · have V : gW D T A s [(o, .inr (7, [.ref n0, .ref s0, .ref im, .ref iz, .ref rw, .ref t0, .ref u0, .ref h0, .ref y0, sv])), (n0, .inr (5, [.int (nI nn), .int nm, .int nl, .int no, .int nu, .ref n1, .ref n2, .ref n3, .ref n4, .ref n5, .ref n6, .ref n7, .ref n8, .ref n9, .ref n10]))] H locs := V _ [] rfl rfl rfl (by decide +kernel) rfl
    show W p l e _ s m args below meth c H locs _ _ _ (F0 m 7 ls [.int (nI 0)])
    refine lv_if_eq (tgt := 21) hx hb dX7_refusedStranger_7 (by decide) (fun _ => ?_) (fun c => absurd (show (nI 0) = 0 by decide +kernel) c)
    refine lv_bipush (v := (-3)) hx hb dX7_refusedStranger_21 (by decide +kernel) ?_
    exact g_iret (Qr := (q_x_refusedStranger T o bl v n0 s0 im iz rw t0 u0 h0 y0 sv nn nm nl no nu n1 n2 n3 n4 n5 n6 n7 n8 n9 n10)) hC V ⟨(Nat.le_of_ble_eq_true rfl), (Nat.le_of_ble_eq_true rfl)⟩ (.inr ⟨(-3), rfl, rfl, (by first | assumption | decide +kernel)⟩) dX7_refusedStranger_23

def q_x_stranger (T : Nat → ClassId) (o : Nat) (i : Int32) (bl : Int32) (n : Int32) (n0 : Nat) (s0 : Nat) (im : Nat) (iz : Nat) (rw : Nat) (t0 : Nat) (u0 : Nat) (h0 : Nat) (y0 : Nat) (sv : Value) (nn : Nat) (nm : Int32) (nl : Int32) (no : Int32) (nu : Int32) (n1 : Nat) (n2 : Nat) (n3 : Nat) (n4 : Nat) (n5 : Nat) (n6 : Nat) (n7 : Nat) (n8 : Nat) (n9 : Nat) (n10 : Nat) (nf1 : Nat → Int32) (nf2 : Nat → Int32) (nf3 : Nat → Int32) (nf4 : Nat → Int32) (nf5 : Nat → Int32) (nf6 : Nat → Int32) (nf7 : Nat → Int32) (nf8 : Nat → Int32) (nf9 : Nat → Int32) (sn : Int32) (sm : Int32) (sl : Int32) (so : Int32) (su : Int32) (s1 : Nat) (s2 : Nat) (s3 : Nat) (s4 : Nat) (s5 : Nat) (s6 : Nat) (s7 : Nat) (s8 : Nat) (s9 : Nat) (s10 : Nat) (sf1 : Nat → Int32) (sf2 : Nat → Int32) (sf3 : Nat → Int32) (sf4 : Nat → Int32) (sf5 : Nat → Int32) (sf6 : Nat → Int32) (sf7 : Nat → Int32) (sf8 : Nat → Int32) (sf9 : Nat → Int32) (sf10 : Nat → Int32) : Option Value → va_W → Prop := fun rr ww => (∃ (z : Int32) (xn : Int32) (xm : Int32) (xl : Int32) (xo : Int32) (xu : Int32) (q1 : Nat → Int32) (q2 : Nat → Int32) (q3 : Nat → Int32) (q4 : Nat → Int32) (q5 : Nat → Int32) (q6 : Nat → Int32) (q7 : Nat → Int32) (q8 : Nat → Int32) (q9 : Nat → Int32) (q10 : Nat → Int32), rr = some (.int z) ∧ ww = [(o, .inr (7, [.ref n0, .ref s0, .ref im, .ref iz, .ref rw, .ref t0, .ref u0, .ref h0, .ref y0, sv])), (n0, .inr (5, [.int (nI nn), .int nm, .int nl, .int no, .int nu, .ref n1, .ref n2, .ref n3, .ref n4, .ref n5, .ref n6, .ref n7, .ref n8, .ref n9, .ref n10])), (n1, .inl (T 0, 10, .inl nf1)), (n2, .inl (T 0, 10, .inl nf2)), (n3, .inl (T 0, 10, .inl nf3)), (n4, .inl (T 0, 10, .inl nf4)), (n5, .inl (T 0, 10, .inl nf5)), (n6, .inl (T 0, 10, .inl nf6)), (n7, .inl (T 0, 10, .inl nf7)), (n8, .inl (T 0, 10, .inl nf8)), (n9, .inl (T 0, 10, .inl nf9)), (s0, .inr (5, [.int xn, .int xm, .int xl, .int xo, .int xu, .ref s1, .ref s2, .ref s3, .ref s4, .ref s5, .ref s6, .ref s7, .ref s8, .ref s9, .ref s10])), (s1, .inl (T 0, 10, .inl q1)), (s2, .inl (T 0, 10, .inl q2)), (s3, .inl (T 0, 10, .inl q3)), (s4, .inl (T 0, 10, .inl q4)), (s5, .inl (T 0, 10, .inl q5)), (s6, .inl (T 0, 10, .inl q6)), (s7, .inl (T 0, 10, .inl q7)), (s8, .inl (T 0, 10, .inl q8)), (s9, .inl (T 0, 10, .inl q9)), (s10, .inl (T 0, 10, .inl q10))])
set_option maxHeartbeats 4000000 in
set_option maxRecDepth 100000 in
theorem x_stranger (l : Launch) (D : va_G) (T : Nat → ClassId) (o : Nat) (i : Int32) (bl : Int32) (n : Int32) (n0 : Nat) (s0 : Nat) (im : Nat) (iz : Nat) (rw : Nat) (t0 : Nat) (u0 : Nat) (h0 : Nat) (y0 : Nat) (sv : Value) (nn : Nat) (nm : Int32) (nl : Int32) (no : Int32) (nu : Int32) (n1 : Nat) (n2 : Nat) (n3 : Nat) (n4 : Nat) (n5 : Nat) (n6 : Nat) (n7 : Nat) (n8 : Nat) (n9 : Nat) (n10 : Nat) (nf1 : Nat → Int32) (nf2 : Nat → Int32) (nf3 : Nat → Int32) (nf4 : Nat → Int32) (nf5 : Nat → Int32) (nf6 : Nat → Int32) (nf7 : Nat → Int32) (nf8 : Nat → Int32) (nf9 : Nat → Int32) (sn : Int32) (sm : Int32) (sl : Int32) (so : Int32) (su : Int32) (s1 : Nat) (s2 : Nat) (s3 : Nat) (s4 : Nat) (s5 : Nat) (s6 : Nat) (s7 : Nat) (s8 : Nat) (s9 : Nat) (s10 : Nat) (sf1 : Nat → Int32) (sf2 : Nat → Int32) (sf3 : Nat → Int32) (sf4 : Nat → Int32) (sf5 : Nat → Int32) (sf6 : Nat → Int32) (sf7 : Nat → Int32) (sf8 : Nat → Int32) (sf9 : Nat → Int32) (sf10 : Nat → Int32) (h_n : nn ≤ 10) (h_t : ∀ i, i < nn → bd (nf9 i) nn) : Ct l yX7_stranger cX7_stranger 5 (some .int) 6 0 0 D T [.ref o, .int i, .int bl, .int n] [(o, .inr (7, [.ref n0, .ref s0, .ref im, .ref iz, .ref rw, .ref t0, .ref u0, .ref h0, .ref y0, sv])), (n0, .inr (5, [.int (nI nn), .int nm, .int nl, .int no, .int nu, .ref n1, .ref n2, .ref n3, .ref n4, .ref n5, .ref n6, .ref n7, .ref n8, .ref n9, .ref n10])), (n1, .inl (T 0, 10, .inl nf1)), (n2, .inl (T 0, 10, .inl nf2)), (n3, .inl (T 0, 10, .inl nf3)), (n4, .inl (T 0, 10, .inl nf4)), (n5, .inl (T 0, 10, .inl nf5)), (n6, .inl (T 0, 10, .inl nf6)), (n7, .inl (T 0, 10, .inl nf7)), (n8, .inl (T 0, 10, .inl nf8)), (n9, .inl (T 0, 10, .inl nf9)), (s0, .inr (5, [.int sn, .int sm, .int sl, .int so, .int su, .ref s1, .ref s2, .ref s3, .ref s4, .ref s5, .ref s6, .ref s7, .ref s8, .ref s9, .ref s10])), (s1, .inl (T 0, 10, .inl sf1)), (s2, .inl (T 0, 10, .inl sf2)), (s3, .inl (T 0, 10, .inl sf3)), (s4, .inl (T 0, 10, .inl sf4)), (s5, .inl (T 0, 10, .inl sf5)), (s6, .inl (T 0, 10, .inl sf6)), (s7, .inl (T 0, 10, .inl sf7)), (s8, .inl (T 0, 10, .inl sf8)), (s9, .inl (T 0, 10, .inl sf9)), (s10, .inl (T 0, 10, .inl sf10))] (q_x_stranger T o i bl n n0 s0 im iz rw t0 u0 h0 y0 sv nn nm nl no nu n1 n2 n3 n4 n5 n6 n7 n8 n9 n10 nf1 nf2 nf3 nf4 nf5 nf6 nf7 nf8 nf9 sn sm sl so su s1 s2 s3 s4 s5 s6 s7 s8 s9 s10 sf1 sf2 sf3 sf4 sf5 sf6 sf7 sf8 sf9 sf10) := by
  refine Ct.of (cc := cX7_stranger) (maxL := 5) (ret := (some .int)) (by decide) (Nat.le_of_ble_eq_true rfl) ?_
  intro p e s m args below meth c A ls hC hnm V hl
  obtain ⟨hx, hb, hr, hml, hown, hts, hlocks⟩ := id hC
  generalize hH : s.heap = H at V ⊢
  clear hH
  have hl : lv_has ls 5 [(0, .ref o), (1, .int i), (2, .int bl), (3, .int n)] := hl
  generalize hlo : ([] : List Loc) = locs at V ⊢
  clear hlo
  refine lv_aload_n hx hb dX7_stranger_0 rfl (lv_at hl 0 rfl) ?_
  refine g_get hC V (ci := 7) uwX7 0 rfl rfl 0 (by decide) w_249 rfl rfl dX7_stranger_1 ?_
  refine lv_iload_n hx hb dX7_stranger_4 rfl (lv_at hl 1 rfl) ?_
  refine g_callVU (nA := 1) hC V hl.1 (s_isSmith l D T n0 i nn nm nl no nu n1 n2 n3 n4 n5 n6 n7 n8 n9 n10 (by first | assumption | omega)) w_425 w_426 w_427 w_3 w_428 (by decide +kernel) rfl ⟨(Nat.le_of_ble_eq_true rfl), (Nat.le_of_ble_eq_true rfl)⟩ 1 (ci := 5) rfl rfl [1] rfl rfl (Nat.le_of_ble_eq_true rfl) dX7_stranger_5 ⟨(Nat.le_of_ble_eq_true rfl), (Nat.le_of_ble_eq_true rfl)⟩ rfl (fun r w1 H locs hQ V => ?_)
  rcases hQ with ⟨j_1, rfl, rfl, f_2, f_3⟩ | ⟨rfl, rfl, f_4⟩
  · have V : gW D T A s [(o, .inr (7, [.ref n0, .ref s0, .ref im, .ref iz, .ref rw, .ref t0, .ref u0, .ref h0, .ref y0, sv])), (n0, .inr (5, [.int (nI nn), .int nm, .int nl, .int no, .int nu, .ref n1, .ref n2, .ref n3, .ref n4, .ref n5, .ref n6, .ref n7, .ref n8, .ref n9, .ref n10])), (n1, .inl (T 0, 10, .inl nf1)), (n2, .inl (T 0, 10, .inl nf2)), (n3, .inl (T 0, 10, .inl nf3)), (n4, .inl (T 0, 10, .inl nf4)), (n5, .inl (T 0, 10, .inl nf5)), (n6, .inl (T 0, 10, .inl nf6)), (n7, .inl (T 0, 10, .inl nf7)), (n8, .inl (T 0, 10, .inl nf8)), (n9, .inl (T 0, 10, .inl nf9)), (s0, .inr (5, [.int sn, .int sm, .int sl, .int so, .int su, .ref s1, .ref s2, .ref s3, .ref s4, .ref s5, .ref s6, .ref s7, .ref s8, .ref s9, .ref s10])), (s1, .inl (T 0, 10, .inl sf1)), (s2, .inl (T 0, 10, .inl sf2)), (s3, .inl (T 0, 10, .inl sf3)), (s4, .inl (T 0, 10, .inl sf4)), (s5, .inl (T 0, 10, .inl sf5)), (s6, .inl (T 0, 10, .inl sf6)), (s7, .inl (T 0, 10, .inl sf7)), (s8, .inl (T 0, 10, .inl sf8)), (s9, .inl (T 0, 10, .inl sf9)), (s10, .inl (T 0, 10, .inl sf10))] H locs := V _ [1] rfl rfl rfl (by decide +kernel) rfl
    show W p l e _ s m args below meth c H locs _ _ _ (F0 m 8 ls [.int (nI 1)])
    rw [f_2] at hl
    refine lv_if_ne (tgt := 14) hx hb dX7_stranger_8 (by decide) (fun _ => ?_) (fun c => absurd (show (nI 1) = 0 from c) (by decide +kernel))
    refine lv_aload_n hx hb dX7_stranger_14 rfl (lv_at hl 0 rfl) ?_
    refine lv_iload_n hx hb dX7_stranger_15 rfl (lv_at hl 2 rfl) ?_
    refine lv_iload_n hx hb dX7_stranger_16 rfl (lv_at hl 3 rfl) ?_
    refine g_callVU (nA := 2) hC V hl.1 (x_refusedStranger l D T o bl n n0 s0 im iz rw t0 u0 h0 y0 sv nn nm nl no nu n1 n2 n3 n4 n5 n6 n7 n8 n9 n10) w_825 w_827 w_s33 w_2 w_828 (by decide +kernel) rfl ⟨(Nat.le_of_ble_eq_true rfl), (Nat.le_of_ble_eq_true rfl)⟩ 0 (ci := 7) rfl rfl [0, 1] rfl rfl (Nat.le_of_ble_eq_true rfl) dX7_stranger_17 ⟨(Nat.le_of_ble_eq_true rfl), (Nat.le_of_ble_eq_true rfl)⟩ rfl (fun r w1 H locs hQ V => ?_)
    rcases hQ with ⟨j_5, rfl, rfl, f_6, f_7, f_8⟩ | ⟨z_9, rfl, rfl, f_10⟩
    · have V : gW D T A s [(o, .inr (7, [.ref n0, .ref s0, .ref im, .ref iz, .ref rw, .ref t0, .ref u0, .ref h0, .ref y0, sv])), (n0, .inr (5, [.int (nI nn), .int nm, .int nl, .int no, .int nu, .ref n1, .ref n2, .ref n3, .ref n4, .ref n5, .ref n6, .ref n7, .ref n8, .ref n9, .ref n10])), (n1, .inl (T 0, 10, .inl nf1)), (n2, .inl (T 0, 10, .inl nf2)), (n3, .inl (T 0, 10, .inl nf3)), (n4, .inl (T 0, 10, .inl nf4)), (n5, .inl (T 0, 10, .inl nf5)), (n6, .inl (T 0, 10, .inl nf6)), (n7, .inl (T 0, 10, .inl nf7)), (n8, .inl (T 0, 10, .inl nf8)), (n9, .inl (T 0, 10, .inl nf9)), (s0, .inr (5, [.int sn, .int sm, .int sl, .int so, .int su, .ref s1, .ref s2, .ref s3, .ref s4, .ref s5, .ref s6, .ref s7, .ref s8, .ref s9, .ref s10])), (s1, .inl (T 0, 10, .inl sf1)), (s2, .inl (T 0, 10, .inl sf2)), (s3, .inl (T 0, 10, .inl sf3)), (s4, .inl (T 0, 10, .inl sf4)), (s5, .inl (T 0, 10, .inl sf5)), (s6, .inl (T 0, 10, .inl sf6)), (s7, .inl (T 0, 10, .inl sf7)), (s8, .inl (T 0, 10, .inl sf8)), (s9, .inl (T 0, 10, .inl sf9)), (s10, .inl (T 0, 10, .inl sf10))] H locs := V _ [0, 0] rfl rfl rfl (by decide +kernel) rfl
      show W p l e _ s m args below meth c H locs _ _ _ (F0 m 20 ls [.int (nI 0)])
      rw [f_8] at hl
      refine lv_istore (lv' := [(4, .int (nI 0)), (0, .ref o), (1, .int (nI j_1)), (2, .int bl), (3, .int (nI j_5))]) hx hb dX7_stranger_20 hl (by decide) rfl (fun ls hl => ?_)
      refine lv_iload hx hb dX7_stranger_22 (lv_at hl 0 rfl) ?_
      refine lv_if_eq (tgt := 30) hx hb dX7_stranger_24 (by decide) (fun _ => ?_) (fun c => absurd (show (nI 0) = 0 by decide +kernel) c)
      refine lv_aload_n hx hb dX7_stranger_30 rfl (lv_at hl 1 rfl) ?_
      refine lv_iload_n hx hb dX7_stranger_31 rfl (lv_at hl 4 rfl) ?_
      refine lv_iconst (v := (nI 0)) hx hb dX7_stranger_32 (by decide +kernel) ?_
      refine lv_aload_n hx hb dX7_stranger_33 rfl (lv_at hl 1 rfl) ?_
      refine g_get hC V (ci := 7) uwX7 0 rfl rfl 0 (by decide) w_249 rfl rfl dX7_stranger_34 ?_
      refine g_get hC V (ci := 5) uwX5 1 rfl rfl 13 (by decide) w_84 rfl rfl dX7_stranger_37 ?_
      refine lv_iload_n hx hb dX7_stranger_40 rfl (lv_at hl 2 rfl) ?_
      refine g_iald hC V 10 rfl (vp_in_nI (by omega) (by omega)) (v := (nf9 j_1)) (congrArg _ (nI_clamp (by omega))) dX7_stranger_41 ?_
      refine lv_iload_n hx hb dX7_stranger_42 rfl (lv_at hl 3 rfl) ?_
      refine g_callV (wr := []) (nA := 4) hC V hl.1 (x_doneByCustom l D T o j_5 (nI 0) (nf9 j_1) bl n0 s0 im iz rw t0 u0 h0 y0 sv nn nm nl no nu n1 n2 n3 n4 n5 n6 n7 n8 n9 n10 nf1 nf2 nf3 nf4 nf5 nf6 nf7 nf8 nf9 sn sm sl so su s1 s2 s3 s4 s5 s6 s7 s8 s9 s10 sf1 sf2 sf3 sf4 sf5 sf6 sf7 sf8 sf9 sf10 (by first | assumption | omega) (by first | assumption | omega) (by first | assumption | omega)) w_536 w_538 w_s13 w_2 w_539 (by decide +kernel) rfl ⟨(Nat.le_of_ble_eq_true rfl), (Nat.le_of_ble_eq_true rfl)⟩ 0 (ci := 7) rfl rfl [0, 1, 2, 3, 4, 5, 6, 7, 8, 9, 10, 11, 12, 13, 14, 15, 16, 17, 18, 19, 20, 21] [] rfl rfl rfl rfl (by decide) (Nat.le_of_ble_eq_true rfl) dX7_stranger_43 ⟨(Nat.le_of_ble_eq_true rfl), (Nat.le_of_ble_eq_true rfl)⟩ rfl (fun r w1 H locs hQ V => ?_)
      obtain ⟨z_11, xm_12, xl_13, xo_14, xu_15, q1_16, q2_17, q3_18, q4_19, q5_20, q6_21, q7_22, q8_23, q9_24, q10_25, rfl, rfl⟩ := hQ
      have V : gW D T A s [(o, .inr (7, [.ref n0, .ref s0, .ref im, .ref iz, .ref rw, .ref t0, .ref u0, .ref h0, .ref y0, sv])), (n0, .inr (5, [.int (nI nn), .int nm, .int nl, .int no, .int nu, .ref n1, .ref n2, .ref n3, .ref n4, .ref n5, .ref n6, .ref n7, .ref n8, .ref n9, .ref n10])), (n1, .inl (T 0, 10, .inl nf1)), (n2, .inl (T 0, 10, .inl nf2)), (n3, .inl (T 0, 10, .inl nf3)), (n4, .inl (T 0, 10, .inl nf4)), (n5, .inl (T 0, 10, .inl nf5)), (n6, .inl (T 0, 10, .inl nf6)), (n7, .inl (T 0, 10, .inl nf7)), (n8, .inl (T 0, 10, .inl nf8)), (n9, .inl (T 0, 10, .inl nf9)), (s0, .inr (5, [.int (nI nn), .int xm_12, .int xl_13, .int xo_14, .int xu_15, .ref s1, .ref s2, .ref s3, .ref s4, .ref s5, .ref s6, .ref s7, .ref s8, .ref s9, .ref s10])), (s1, .inl (T 0, 10, .inl q1_16)), (s2, .inl (T 0, 10, .inl q2_17)), (s3, .inl (T 0, 10, .inl q3_18)), (s4, .inl (T 0, 10, .inl q4_19)), (s5, .inl (T 0, 10, .inl q5_20)), (s6, .inl (T 0, 10, .inl q6_21)), (s7, .inl (T 0, 10, .inl q7_22)), (s8, .inl (T 0, 10, .inl q8_23)), (s9, .inl (T 0, 10, .inl q9_24)), (s10, .inl (T 0, 10, .inl q10_25))] H locs := V
      show W p l e _ s m args below meth c H locs _ _ _ (F0 m 46 ls [.int z_11])
      refine lv_aload_n hx hb dX7_stranger_46 rfl (lv_at hl 1 rfl) ?_
      refine lv_iload_n hx hb dX7_stranger_47 rfl (lv_at hl 4 rfl) ?_
      refine lv_iconst (v := (nI 0)) hx hb dX7_stranger_48 (by decide +kernel) ?_
      refine lv_iconst (v := (-1)) hx hb dX7_stranger_49 (by decide +kernel) ?_
      refine lv_iconst (v := (nI 0)) hx hb dX7_stranger_50 (by decide +kernel) ?_
      refine g_callV (wr := []) (nA := 4) hC V hl.1 (x_doneByCustom l D T o j_5 (nI 0) (-1) (nI 0) n0 s0 im iz rw t0 u0 h0 y0 sv nn nm nl no nu n1 n2 n3 n4 n5 n6 n7 n8 n9 n10 nf1 nf2 nf3 nf4 nf5 nf6 nf7 nf8 nf9 (nI nn) xm_12 xl_13 xo_14 xu_15 s1 s2 s3 s4 s5 s6 s7 s8 s9 s10 q1_16 q2_17 q3_18 q4_19 q5_20 q6_21 q7_22 q8_23 q9_24 q10_25 (by first | assumption | omega) (by first | assumption | omega) (by first | assumption | omega)) w_536 w_538 w_s13 w_2 w_539 (by decide +kernel) rfl ⟨(Nat.le_of_ble_eq_true rfl), (Nat.le_of_ble_eq_true rfl)⟩ 0 (ci := 7) rfl rfl [0, 1, 2, 3, 4, 5, 6, 7, 8, 9, 10, 11, 12, 13, 14, 15, 16, 17, 18, 19, 20, 21] [] rfl rfl rfl rfl (by decide) (Nat.le_of_ble_eq_true rfl) dX7_stranger_51 ⟨(Nat.le_of_ble_eq_true rfl), (Nat.le_of_ble_eq_true rfl)⟩ rfl (fun r w1 H locs hQ V => ?_)
      obtain ⟨z_26, xm_27, xl_28, xo_29, xu_30, q1_31, q2_32, q3_33, q4_34, q5_35, q6_36, q7_37, q8_38, q9_39, q10_40, rfl, rfl⟩ := hQ
      have V : gW D T A s [(o, .inr (7, [.ref n0, .ref s0, .ref im, .ref iz, .ref rw, .ref t0, .ref u0, .ref h0, .ref y0, sv])), (n0, .inr (5, [.int (nI nn), .int nm, .int nl, .int no, .int nu, .ref n1, .ref n2, .ref n3, .ref n4, .ref n5, .ref n6, .ref n7, .ref n8, .ref n9, .ref n10])), (n1, .inl (T 0, 10, .inl nf1)), (n2, .inl (T 0, 10, .inl nf2)), (n3, .inl (T 0, 10, .inl nf3)), (n4, .inl (T 0, 10, .inl nf4)), (n5, .inl (T 0, 10, .inl nf5)), (n6, .inl (T 0, 10, .inl nf6)), (n7, .inl (T 0, 10, .inl nf7)), (n8, .inl (T 0, 10, .inl nf8)), (n9, .inl (T 0, 10, .inl nf9)), (s0, .inr (5, [.int (nI nn), .int xm_27, .int xl_28, .int xo_29, .int xu_30, .ref s1, .ref s2, .ref s3, .ref s4, .ref s5, .ref s6, .ref s7, .ref s8, .ref s9, .ref s10])), (s1, .inl (T 0, 10, .inl q1_31)), (s2, .inl (T 0, 10, .inl q2_32)), (s3, .inl (T 0, 10, .inl q3_33)), (s4, .inl (T 0, 10, .inl q4_34)), (s5, .inl (T 0, 10, .inl q5_35)), (s6, .inl (T 0, 10, .inl q6_36)), (s7, .inl (T 0, 10, .inl q7_37)), (s8, .inl (T 0, 10, .inl q8_38)), (s9, .inl (T 0, 10, .inl q9_39)), (s10, .inl (T 0, 10, .inl q10_40))] H locs := V
      show W p l e _ s m args below meth c H locs _ _ _ (F0 m 54 ls [.int z_26, .int z_11])
      refine lv_isub hx hb dX7_stranger_54 ?_
      exact g_iret (Qr := (q_x_stranger T o i bl n n0 s0 im iz rw t0 u0 h0 y0 sv nn nm nl no nu n1 n2 n3 n4 n5 n6 n7 n8 n9 n10 nf1 nf2 nf3 nf4 nf5 nf6 nf7 nf8 nf9 sn sm sl so su s1 s2 s3 s4 s5 s6 s7 s8 s9 s10 sf1 sf2 sf3 sf4 sf5 sf6 sf7 sf8 sf9 sf10)) hC V ⟨(Nat.le_of_ble_eq_true rfl), (Nat.le_of_ble_eq_true rfl)⟩ ⟨(z_11 - z_26), (nI nn), xm_27, xl_28, xo_29, xu_30, q1_31, q2_32, q3_33, q4_34, q5_35, q6_36, q7_37, q8_38, q9_39, q10_40, rfl, rfl⟩ dX7_stranger_55
    · have V : gW D T A s [(o, .inr (7, [.ref n0, .ref s0, .ref im, .ref iz, .ref rw, .ref t0, .ref u0, .ref h0, .ref y0, sv])), (n0, .inr (5, [.int (nI nn), .int nm, .int nl, .int no, .int nu, .ref n1, .ref n2, .ref n3, .ref n4, .ref n5, .ref n6, .ref n7, .ref n8, .ref n9, .ref n10])), (n1, .inl (T 0, 10, .inl nf1)), (n2, .inl (T 0, 10, .inl nf2)), (n3, .inl (T 0, 10, .inl nf3)), (n4, .inl (T 0, 10, .inl nf4)), (n5, .inl (T 0, 10, .inl nf5)), (n6, .inl (T 0, 10, .inl nf6)), (n7, .inl (T 0, 10, .inl nf7)), (n8, .inl (T 0, 10, .inl nf8)), (n9, .inl (T 0, 10, .inl nf9)), (s0, .inr (5, [.int sn, .int sm, .int sl, .int so, .int su, .ref s1, .ref s2, .ref s3, .ref s4, .ref s5, .ref s6, .ref s7, .ref s8, .ref s9, .ref s10])), (s1, .inl (T 0, 10, .inl sf1)), (s2, .inl (T 0, 10, .inl sf2)), (s3, .inl (T 0, 10, .inl sf3)), (s4, .inl (T 0, 10, .inl sf4)), (s5, .inl (T 0, 10, .inl sf5)), (s6, .inl (T 0, 10, .inl sf6)), (s7, .inl (T 0, 10, .inl sf7)), (s8, .inl (T 0, 10, .inl sf8)), (s9, .inl (T 0, 10, .inl sf9)), (s10, .inl (T 0, 10, .inl sf10))] H locs := V _ [0, 0] rfl rfl rfl (by decide +kernel) rfl
      show W p l e _ s m args below meth c H locs _ _ _ (F0 m 20 ls [.int z_9])
      refine lv_istore (lv' := [(4, .int z_9), (0, .ref o), (1, .int (nI j_1)), (2, .int bl), (3, .int n)]) hx hb dX7_stranger_20 hl (by decide) rfl (fun ls hl => ?_)
      refine lv_iload hx hb dX7_stranger_22 (lv_at hl 0 rfl) ?_
      refine lv_if_eq (tgt := 30) hx hb dX7_stranger_24 (by decide) (fun c_41 => ?_) (fun c_41 => ?_)
      · skip
        exact (absurd c_41 (by assumption) : False).elim
      · skip
        refine lv_iload hx hb dX7_stranger_27 (lv_at hl 0 rfl) ?_
        exact g_iret (Qr := (q_x_stranger T o i bl n n0 s0 im iz rw t0 u0 h0 y0 sv nn nm nl no nu n1 n2 n3 n4 n5 n6 n7 n8 n9 n10 nf1 nf2 nf3 nf4 nf5 nf6 nf7 nf8 nf9 sn sm sl so su s1 s2 s3 s4 s5 s6 s7 s8 s9 s10 sf1 sf2 sf3 sf4 sf5 sf6 sf7 sf8 sf9 sf10)) hC V ⟨(Nat.le_of_ble_eq_true rfl), (Nat.le_of_ble_eq_true rfl)⟩ ⟨z_9, sn, sm, sl, so, su, sf1, sf2, sf3, sf4, sf5, sf6, sf7, sf8, sf9, sf10, rfl, rfl⟩ dX7_stranger_29
  · have V : gW D T A s [(o, .inr (7, [.ref n0, .ref s0, .ref im, .ref iz, .ref rw, .ref t0, .ref u0, .ref h0, .ref y0, sv])), (n0, .inr (5, [.int (nI nn), .int nm, .int nl, .int no, .int nu, .ref n1, .ref n2, .ref n3, .ref n4, .ref n5, .ref n6, .ref n7, .ref n8, .ref n9, .ref n10])), (n1, .inl (T 0, 10, .inl nf1)), (n2, .inl (T 0, 10, .inl nf2)), (n3, .inl (T 0, 10, .inl nf3)), (n4, .inl (T 0, 10, .inl nf4)), (n5, .inl (T 0, 10, .inl nf5)), (n6, .inl (T 0, 10, .inl nf6)), (n7, .inl (T 0, 10, .inl nf7)), (n8, .inl (T 0, 10, .inl nf8)), (n9, .inl (T 0, 10, .inl nf9)), (s0, .inr (5, [.int sn, .int sm, .int sl, .int so, .int su, .ref s1, .ref s2, .ref s3, .ref s4, .ref s5, .ref s6, .ref s7, .ref s8, .ref s9, .ref s10])), (s1, .inl (T 0, 10, .inl sf1)), (s2, .inl (T 0, 10, .inl sf2)), (s3, .inl (T 0, 10, .inl sf3)), (s4, .inl (T 0, 10, .inl sf4)), (s5, .inl (T 0, 10, .inl sf5)), (s6, .inl (T 0, 10, .inl sf6)), (s7, .inl (T 0, 10, .inl sf7)), (s8, .inl (T 0, 10, .inl sf8)), (s9, .inl (T 0, 10, .inl sf9)), (s10, .inl (T 0, 10, .inl sf10))] H locs := V _ [1] rfl rfl rfl (by decide +kernel) rfl
    show W p l e _ s m args below meth c H locs _ _ _ (F0 m 8 ls [.int (nI 0)])
    refine lv_if_ne (tgt := 14) hx hb dX7_stranger_8 (by decide) (fun c => absurd (show (nI 0) = 0 by decide +kernel) c) (fun _ => ?_)
    refine lv_bipush (v := (-2)) hx hb dX7_stranger_11 (by decide +kernel) ?_
    exact g_iret (Qr := (q_x_stranger T o i bl n n0 s0 im iz rw t0 u0 h0 y0 sv nn nm nl no nu n1 n2 n3 n4 n5 n6 n7 n8 n9 n10 nf1 nf2 nf3 nf4 nf5 nf6 nf7 nf8 nf9 sn sm sl so su s1 s2 s3 s4 s5 s6 s7 s8 s9 s10 sf1 sf2 sf3 sf4 sf5 sf6 sf7 sf8 sf9 sf10)) hC V ⟨(Nat.le_of_ble_eq_true rfl), (Nat.le_of_ble_eq_true rfl)⟩ ⟨(-2), sn, sm, sl, so, su, sf1, sf2, sf3, sf4, sf5, sf6, sf7, sf8, sf9, sf10, rfl, rfl⟩ dX7_stranger_13

def q_x_bestPlace (T : Nat → ClassId) (o : Nat) (bl : Int32) (n : Int32) (n0 : Nat) (s0 : Nat) (im : Nat) (iz : Nat) (rw : Nat) (t0 : Nat) (u0 : Nat) (h0 : Nat) (y0 : Nat) (sv : Value) (nn : Nat) (nm : Int32) (nl : Int32) (no : Int32) (nu : Int32) (n1 : Nat) (n2 : Nat) (n3 : Nat) (n4 : Nat) (n5 : Nat) (n6 : Nat) (n7 : Nat) (n8 : Nat) (n9 : Nat) (n10 : Nat) (nf1 : Nat → Int32) (nf2 : Nat → Int32) (nf3 : Nat → Int32) (nf4 : Nat → Int32) (nf5 : Nat → Int32) (nf6 : Nat → Int32) (nf7 : Nat → Int32) (nf8 : Nat → Int32) (nf9 : Nat → Int32) (sn : Int32) (sm : Int32) (sl : Int32) (so : Int32) (su : Int32) (s1 : Nat) (s2 : Nat) (s3 : Nat) (s4 : Nat) (s5 : Nat) (s6 : Nat) (s7 : Nat) (s8 : Nat) (s9 : Nat) (s10 : Nat) (sf1 : Nat → Int32) (sf2 : Nat → Int32) (sf3 : Nat → Int32) (sf4 : Nat → Int32) (sf5 : Nat → Int32) (sf6 : Nat → Int32) (sf7 : Nat → Int32) (sf8 : Nat → Int32) (sf9 : Nat → Int32) (sf10 : Nat → Int32) : Option Value → va_W → Prop := fun rr ww => (∃ (z : Int32) (xn : Int32) (xm : Int32) (xl : Int32) (xo : Int32) (xu : Int32) (q1 : Nat → Int32) (q2 : Nat → Int32) (q3 : Nat → Int32) (q4 : Nat → Int32) (q5 : Nat → Int32) (q6 : Nat → Int32) (q7 : Nat → Int32) (q8 : Nat → Int32) (q9 : Nat → Int32) (q10 : Nat → Int32), rr = some (.int z) ∧ ww = [(o, .inr (7, [.ref n0, .ref s0, .ref im, .ref iz, .ref rw, .ref t0, .ref u0, .ref h0, .ref y0, sv])), (n0, .inr (5, [.int (nI nn), .int nm, .int nl, .int no, .int nu, .ref n1, .ref n2, .ref n3, .ref n4, .ref n5, .ref n6, .ref n7, .ref n8, .ref n9, .ref n10])), (n1, .inl (T 0, 10, .inl nf1)), (n2, .inl (T 0, 10, .inl nf2)), (n3, .inl (T 0, 10, .inl nf3)), (n4, .inl (T 0, 10, .inl nf4)), (n5, .inl (T 0, 10, .inl nf5)), (n6, .inl (T 0, 10, .inl nf6)), (n7, .inl (T 0, 10, .inl nf7)), (n8, .inl (T 0, 10, .inl nf8)), (n9, .inl (T 0, 10, .inl nf9)), (s0, .inr (5, [.int xn, .int xm, .int xl, .int xo, .int xu, .ref s1, .ref s2, .ref s3, .ref s4, .ref s5, .ref s6, .ref s7, .ref s8, .ref s9, .ref s10])), (s1, .inl (T 0, 10, .inl q1)), (s2, .inl (T 0, 10, .inl q2)), (s3, .inl (T 0, 10, .inl q3)), (s4, .inl (T 0, 10, .inl q4)), (s5, .inl (T 0, 10, .inl q5)), (s6, .inl (T 0, 10, .inl q6)), (s7, .inl (T 0, 10, .inl q7)), (s8, .inl (T 0, 10, .inl q8)), (s9, .inl (T 0, 10, .inl q9)), (s10, .inl (T 0, 10, .inl q10))])
set_option maxHeartbeats 4000000 in
set_option maxRecDepth 100000 in
theorem x_bestPlace (l : Launch) (D : va_G) (T : Nat → ClassId) (o : Nat) (bl : Int32) (n : Int32) (n0 : Nat) (s0 : Nat) (im : Nat) (iz : Nat) (rw : Nat) (t0 : Nat) (u0 : Nat) (h0 : Nat) (y0 : Nat) (sv : Value) (nn : Nat) (nm : Int32) (nl : Int32) (no : Int32) (nu : Int32) (n1 : Nat) (n2 : Nat) (n3 : Nat) (n4 : Nat) (n5 : Nat) (n6 : Nat) (n7 : Nat) (n8 : Nat) (n9 : Nat) (n10 : Nat) (nf1 : Nat → Int32) (nf2 : Nat → Int32) (nf3 : Nat → Int32) (nf4 : Nat → Int32) (nf5 : Nat → Int32) (nf6 : Nat → Int32) (nf7 : Nat → Int32) (nf8 : Nat → Int32) (nf9 : Nat → Int32) (sn : Int32) (sm : Int32) (sl : Int32) (so : Int32) (su : Int32) (s1 : Nat) (s2 : Nat) (s3 : Nat) (s4 : Nat) (s5 : Nat) (s6 : Nat) (s7 : Nat) (s8 : Nat) (s9 : Nat) (s10 : Nat) (sf1 : Nat → Int32) (sf2 : Nat → Int32) (sf3 : Nat → Int32) (sf4 : Nat → Int32) (sf5 : Nat → Int32) (sf6 : Nat → Int32) (sf7 : Nat → Int32) (sf8 : Nat → Int32) (sf9 : Nat → Int32) (sf10 : Nat → Int32) (h_n : nn ≤ 10) (h_t : ∀ i, i < nn → bd (nf9 i) nn) : Ct l yX7_bestPlace cX7_bestPlace 8 (some .int) 6 0 0 D T [.ref o, .int bl, .int n] [(o, .inr (7, [.ref n0, .ref s0, .ref im, .ref iz, .ref rw, .ref t0, .ref u0, .ref h0, .ref y0, sv])), (n0, .inr (5, [.int (nI nn), .int nm, .int nl, .int no, .int nu, .ref n1, .ref n2, .ref n3, .ref n4, .ref n5, .ref n6, .ref n7, .ref n8, .ref n9, .ref n10])), (n1, .inl (T 0, 10, .inl nf1)), (n2, .inl (T 0, 10, .inl nf2)), (n3, .inl (T 0, 10, .inl nf3)), (n4, .inl (T 0, 10, .inl nf4)), (n5, .inl (T 0, 10, .inl nf5)), (n6, .inl (T 0, 10, .inl nf6)), (n7, .inl (T 0, 10, .inl nf7)), (n8, .inl (T 0, 10, .inl nf8)), (n9, .inl (T 0, 10, .inl nf9)), (s0, .inr (5, [.int sn, .int sm, .int sl, .int so, .int su, .ref s1, .ref s2, .ref s3, .ref s4, .ref s5, .ref s6, .ref s7, .ref s8, .ref s9, .ref s10])), (s1, .inl (T 0, 10, .inl sf1)), (s2, .inl (T 0, 10, .inl sf2)), (s3, .inl (T 0, 10, .inl sf3)), (s4, .inl (T 0, 10, .inl sf4)), (s5, .inl (T 0, 10, .inl sf5)), (s6, .inl (T 0, 10, .inl sf6)), (s7, .inl (T 0, 10, .inl sf7)), (s8, .inl (T 0, 10, .inl sf8)), (s9, .inl (T 0, 10, .inl sf9)), (s10, .inl (T 0, 10, .inl sf10))] (q_x_bestPlace T o bl n n0 s0 im iz rw t0 u0 h0 y0 sv nn nm nl no nu n1 n2 n3 n4 n5 n6 n7 n8 n9 n10 nf1 nf2 nf3 nf4 nf5 nf6 nf7 nf8 nf9 sn sm sl so su s1 s2 s3 s4 s5 s6 s7 s8 s9 s10 sf1 sf2 sf3 sf4 sf5 sf6 sf7 sf8 sf9 sf10) := by
  refine Ct.of (cc := cX7_bestPlace) (maxL := 8) (ret := (some .int)) (by decide) (Nat.le_of_ble_eq_true rfl) ?_
  intro p e s m args below meth c A ls hC hnm V hl
  obtain ⟨hx, hb, hr, hml, hown, hts, hlocks⟩ := id hC
  generalize hH : s.heap = H at V ⊢
  clear hH
  have hl : lv_has ls 8 [(0, .ref o), (1, .int bl), (2, .int n)] := hl
  generalize hlo : ([] : List Loc) = locs at V ⊢
  clear hlo
  refine lv_aload_n hx hb dX7_bestPlace_0 rfl (lv_at hl 0 rfl) ?_
  refine g_get hC V (ci := 7) uwX7 0 rfl rfl 0 (by decide) w_249 rfl rfl dX7_bestPlace_1 ?_
  refine g_get hC V (ci := 5) uwX5 1 rfl rfl 0 (by decide) w_38 rfl rfl dX7_bestPlace_4 ?_
  refine lv_if_ne (tgt := 12) hx hb dX7_bestPlace_7 (by decide) (fun c_1 => ?_) (fun c_1 => ?_)
  · skip
    rw [show (0 : Int32) = nI 0 from rfl] at c_1
    have c_1 := b_ne (by omega) (by omega) c_1
    refine lv_aload_n hx hb dX7_bestPlace_12 rfl (lv_at hl 0 rfl) ?_
    refine lv_iload_n hx hb dX7_bestPlace_13 rfl (lv_at hl 1 rfl) ?_
    refine lv_iload_n hx hb dX7_bestPlace_14 rfl (lv_at hl 2 rfl) ?_
    refine g_callVU (nA := 2) hC V hl.1 (x_refusedStranger l D T o bl n n0 s0 im iz rw t0 u0 h0 y0 sv nn nm nl no nu n1 n2 n3 n4 n5 n6 n7 n8 n9 n10) w_825 w_827 w_s33 w_2 w_828 (by decide +kernel) rfl ⟨(Nat.le_of_ble_eq_true rfl), (Nat.le_of_ble_eq_true rfl)⟩ 0 (ci := 7) rfl rfl [0, 1] rfl rfl (Nat.le_of_ble_eq_true rfl) dX7_bestPlace_15 ⟨(Nat.le_of_ble_eq_true rfl), (Nat.le_of_ble_eq_true rfl)⟩ rfl (fun r w1 H locs hQ V => ?_)
    rcases hQ with ⟨j_2, rfl, rfl, f_3, f_4, f_5⟩ | ⟨z_6, rfl, rfl, f_7⟩
    · have V : gW D T A s [(o, .inr (7, [.ref n0, .ref s0, .ref im, .ref iz, .ref rw, .ref t0, .ref u0, .ref h0, .ref y0, sv])), (n0, .inr (5, [.int (nI nn), .int nm, .int nl, .int no, .int nu, .ref n1, .ref n2, .ref n3, .ref n4, .ref n5, .ref n6, .ref n7, .ref n8, .ref n9, .ref n10])), (n1, .inl (T 0, 10, .inl nf1)), (n2, .inl (T 0, 10, .inl nf2)), (n3, .inl (T 0, 10, .inl nf3)), (n4, .inl (T 0, 10, .inl nf4)), (n5, .inl (T 0, 10, .inl nf5)), (n6, .inl (T 0, 10, .inl nf6)), (n7, .inl (T 0, 10, .inl nf7)), (n8, .inl (T 0, 10, .inl nf8)), (n9, .inl (T 0, 10, .inl nf9)), (s0, .inr (5, [.int sn, .int sm, .int sl, .int so, .int su, .ref s1, .ref s2, .ref s3, .ref s4, .ref s5, .ref s6, .ref s7, .ref s8, .ref s9, .ref s10])), (s1, .inl (T 0, 10, .inl sf1)), (s2, .inl (T 0, 10, .inl sf2)), (s3, .inl (T 0, 10, .inl sf3)), (s4, .inl (T 0, 10, .inl sf4)), (s5, .inl (T 0, 10, .inl sf5)), (s6, .inl (T 0, 10, .inl sf6)), (s7, .inl (T 0, 10, .inl sf7)), (s8, .inl (T 0, 10, .inl sf8)), (s9, .inl (T 0, 10, .inl sf9)), (s10, .inl (T 0, 10, .inl sf10))] H locs := V _ [0, 0] rfl rfl rfl (by decide +kernel) rfl
      show W p l e _ s m args below meth c H locs _ _ _ (F0 m 18 ls [.int (nI 0)])
      rw [f_5] at hl
      refine lv_istore_n (lv' := [(3, .int (nI 0)), (0, .ref o), (1, .int bl), (2, .int (nI j_2))]) hx hb dX7_bestPlace_18 rfl hl (by decide) rfl (fun ls hl => ?_)
      refine lv_iload_n hx hb dX7_bestPlace_19 rfl (lv_at hl 0 rfl) ?_
      refine lv_if_eq (tgt := 25) hx hb dX7_bestPlace_20 (by decide) (fun _ => ?_) (fun c => absurd (show (nI 0) = 0 by decide +kernel) c)
      refine lv_iconst (v := (nI 0)) hx hb dX7_bestPlace_25 (by decide +kernel) ?_
      refine lv_istore (lv' := [(4, .int (nI 0)), (3, .int (nI 0)), (0, .ref o), (1, .int bl), (2, .int (nI j_2))]) hx hb dX7_bestPlace_26 hl (by decide) rfl (fun ls hl => ?_)
      refine lv_iconst (v := (-1)) hx hb dX7_bestPlace_28 (by decide +kernel) ?_
      refine lv_istore (lv' := [(5, .int (-1)), (4, .int (nI 0)), (3, .int (nI 0)), (0, .ref o), (1, .int bl), (2, .int (nI j_2))]) hx hb dX7_bestPlace_29 hl (by decide) rfl (fun ls hl => ?_)
      refine lv_iconst (v := (nI 0)) hx hb dX7_bestPlace_31 (by decide +kernel) ?_
      refine lv_istore (lv' := [(6, .int (nI 0)), (5, .int (-1)), (4, .int (nI 0)), (3, .int (nI 0)), (0, .ref o), (1, .int bl), (2, .int (nI j_2))]) hx hb dX7_bestPlace_32 hl (by decide) rfl (fun ls hl => ?_)
      have L_8 : ∀ (fu : Nat) (k34 : Nat) (x34_5 : Int32) (x34_4 : Int32) (qn : Int32) (qm : Int32) (ql_ : Int32) (qo : Int32) (qu : Int32) (e1_ : Nat → Int32) (e2_ : Nat → Int32) (e3_ : Nat → Int32) (e4_ : Nat → Int32) (e5_ : Nat → Int32) (e6_ : Nat → Int32) (e7_ : Nat → Int32) (e8_ : Nat → Int32) (e9_ : Nat → Int32) (e10_ : Nat → Int32), k34 ≤ nn → nn - k34 < fu → ∀ (H : Heap) (locs : List Loc) (ls : Array Slot), gW D T A s [(o, .inr (7, [.ref n0, .ref s0, .ref im, .ref iz, .ref rw, .ref t0, .ref u0, .ref h0, .ref y0, sv])), (n0, .inr (5, [.int (nI nn), .int nm, .int nl, .int no, .int nu, .ref n1, .ref n2, .ref n3, .ref n4, .ref n5, .ref n6, .ref n7, .ref n8, .ref n9, .ref n10])), (n1, .inl (T 0, 10, .inl nf1)), (n2, .inl (T 0, 10, .inl nf2)), (n3, .inl (T 0, 10, .inl nf3)), (n4, .inl (T 0, 10, .inl nf4)), (n5, .inl (T 0, 10, .inl nf5)), (n6, .inl (T 0, 10, .inl nf6)), (n7, .inl (T 0, 10, .inl nf7)), (n8, .inl (T 0, 10, .inl nf8)), (n9, .inl (T 0, 10, .inl nf9)), (s0, .inr (5, [.int qn, .int qm, .int ql_, .int qo, .int qu, .ref s1, .ref s2, .ref s3, .ref s4, .ref s5, .ref s6, .ref s7, .ref s8, .ref s9, .ref s10])), (s1, .inl (T 0, 10, .inl e1_)), (s2, .inl (T 0, 10, .inl e2_)), (s3, .inl (T 0, 10, .inl e3_)), (s4, .inl (T 0, 10, .inl e4_)), (s5, .inl (T 0, 10, .inl e5_)), (s6, .inl (T 0, 10, .inl e6_)), (s7, .inl (T 0, 10, .inl e7_)), (s8, .inl (T 0, 10, .inl e8_)), (s9, .inl (T 0, 10, .inl e9_)), (s10, .inl (T 0, 10, .inl e10_))] H locs → lv_has ls 8 [(6, .int (nI k34)), (5, .int x34_5), (4, .int x34_4), (3, .int (nI 0)), (0, .ref o), (1, .int bl), (2, .int (nI j_2))] → W p l e (rmD 6 0 0) s m args below meth c H locs 0 0 (MQ below (gQ D A (q_x_bestPlace T o bl n n0 s0 im iz rw t0 u0 h0 y0 sv nn nm nl no nu n1 n2 n3 n4 n5 n6 n7 n8 n9 n10 nf1 nf2 nf3 nf4 nf5 nf6 nf7 nf8 nf9 sn sm sl so su s1 s2 s3 s4 s5 s6 s7 s8 s9 s10 sf1 sf2 sf3 sf4 sf5 sf6 sf7 sf8 sf9 sf10)) args s 0 0 A) (F0 m 34 ls []) := by
        intro fu_34
        induction fu_34 with
        | zero => intro k34 x34_5 x34_4 qn qm ql_ qo qu e1_ e2_ e3_ e4_ e5_ e6_ e7_ e8_ e9_ e10_ hk34 hmu; exact absurd hmu (Nat.not_lt_zero _)
        | succ fu_34 ih_34 =>
          intro k34 x34_5 x34_4 qn qm ql_ qo qu e1_ e2_ e3_ e4_ e5_ e6_ e7_ e8_ e9_ e10_ hk34 hmu_34 H locs ls V hl
          refine lv_iload hx hb dX7_bestPlace_34 (lv_at hl 0 rfl) ?_
          refine lv_aload_n hx hb dX7_bestPlace_36 rfl (lv_at hl 4 rfl) ?_
          refine g_get hC V (ci := 7) uwX7 0 rfl rfl 0 (by decide) w_249 rfl rfl dX7_bestPlace_37 ?_
          refine g_get hC V (ci := 5) uwX5 1 rfl rfl 0 (by decide) w_38 rfl rfl dX7_bestPlace_40 ?_
          refine lv_icmp_ge (tgt := 86) hx hb dX7_bestPlace_43 (by decide) (fun c_9 => ?_) (fun c_9 => ?_)
          · skip
            have c_9 := b_le (by omega) (by omega) c_9
            refine lv_iload hx hb dX7_bestPlace_86 (lv_at hl 2 rfl) ?_
            exact g_iret (Qr := (q_x_bestPlace T o bl n n0 s0 im iz rw t0 u0 h0 y0 sv nn nm nl no nu n1 n2 n3 n4 n5 n6 n7 n8 n9 n10 nf1 nf2 nf3 nf4 nf5 nf6 nf7 nf8 nf9 sn sm sl so su s1 s2 s3 s4 s5 s6 s7 s8 s9 s10 sf1 sf2 sf3 sf4 sf5 sf6 sf7 sf8 sf9 sf10)) hC V ⟨(Nat.le_of_ble_eq_true rfl), (Nat.le_of_ble_eq_true rfl)⟩ ⟨x34_4, qn, qm, ql_, qo, qu, e1_, e2_, e3_, e4_, e5_, e6_, e7_, e8_, e9_, e10_, rfl, rfl⟩ dX7_bestPlace_88
          · skip
            have c_9 := b_nle (by omega) (by omega) c_9
            refine lv_aload_n hx hb dX7_bestPlace_46 rfl (lv_at hl 4 rfl) ?_
            refine lv_iload_n hx hb dX7_bestPlace_47 rfl (lv_at hl 6 rfl) ?_
            refine lv_iconst (v := (nI 0)) hx hb dX7_bestPlace_48 (by decide +kernel) ?_
            refine lv_aload_n hx hb dX7_bestPlace_49 rfl (lv_at hl 4 rfl) ?_
            refine g_get hC V (ci := 7) uwX7 0 rfl rfl 0 (by decide) w_249 rfl rfl dX7_bestPlace_50 ?_
            refine g_get hC V (ci := 5) uwX5 1 rfl rfl 13 (by decide) w_84 rfl rfl dX7_bestPlace_53 ?_
            refine lv_iload hx hb dX7_bestPlace_56 (lv_at hl 0 rfl) ?_
            refine g_iald hC V 10 rfl (vp_in_nI (by omega) (by omega)) (v := (nf9 k34)) (congrArg _ (nI_clamp (by omega))) dX7_bestPlace_58 ?_
            refine lv_iload_n hx hb dX7_bestPlace_59 rfl (lv_at hl 5 rfl) ?_
            refine g_callV (wr := []) (nA := 4) hC V hl.1 (x_doneByCustom l D T o j_2 (nI 0) (nf9 k34) bl n0 s0 im iz rw t0 u0 h0 y0 sv nn nm nl no nu n1 n2 n3 n4 n5 n6 n7 n8 n9 n10 nf1 nf2 nf3 nf4 nf5 nf6 nf7 nf8 nf9 qn qm ql_ qo qu s1 s2 s3 s4 s5 s6 s7 s8 s9 s10 e1_ e2_ e3_ e4_ e5_ e6_ e7_ e8_ e9_ e10_ (by first | assumption | omega) (by first | assumption | omega) (by first | assumption | omega)) w_536 w_538 w_s13 w_2 w_539 (by decide +kernel) rfl ⟨(Nat.le_of_ble_eq_true rfl), (Nat.le_of_ble_eq_true rfl)⟩ 0 (ci := 7) rfl rfl [0, 1, 2, 3, 4, 5, 6, 7, 8, 9, 10, 11, 12, 13, 14, 15, 16, 17, 18, 19, 20, 21] [] rfl rfl rfl rfl (by decide) (Nat.le_of_ble_eq_true rfl) dX7_bestPlace_60 ⟨(Nat.le_of_ble_eq_true rfl), (Nat.le_of_ble_eq_true rfl)⟩ rfl (fun r w1 H locs hQ V => ?_)
            obtain ⟨z_10, xm_11, xl_12, xo_13, xu_14, q1_15, q2_16, q3_17, q4_18, q5_19, q6_20, q7_21, q8_22, q9_23, q10_24, rfl, rfl⟩ := hQ
            have V : gW D T A s [(o, .inr (7, [.ref n0, .ref s0, .ref im, .ref iz, .ref rw, .ref t0, .ref u0, .ref h0, .ref y0, sv])), (n0, .inr (5, [.int (nI nn), .int nm, .int nl, .int no, .int nu, .ref n1, .ref n2, .ref n3, .ref n4, .ref n5, .ref n6, .ref n7, .ref n8, .ref n9, .ref n10])), (n1, .inl (T 0, 10, .inl nf1)), (n2, .inl (T 0, 10, .inl nf2)), (n3, .inl (T 0, 10, .inl nf3)), (n4, .inl (T 0, 10, .inl nf4)), (n5, .inl (T 0, 10, .inl nf5)), (n6, .inl (T 0, 10, .inl nf6)), (n7, .inl (T 0, 10, .inl nf7)), (n8, .inl (T 0, 10, .inl nf8)), (n9, .inl (T 0, 10, .inl nf9)), (s0, .inr (5, [.int (nI nn), .int xm_11, .int xl_12, .int xo_13, .int xu_14, .ref s1, .ref s2, .ref s3, .ref s4, .ref s5, .ref s6, .ref s7, .ref s8, .ref s9, .ref s10])), (s1, .inl (T 0, 10, .inl q1_15)), (s2, .inl (T 0, 10, .inl q2_16)), (s3, .inl (T 0, 10, .inl q3_17)), (s4, .inl (T 0, 10, .inl q4_18)), (s5, .inl (T 0, 10, .inl q5_19)), (s6, .inl (T 0, 10, .inl q6_20)), (s7, .inl (T 0, 10, .inl q7_21)), (s8, .inl (T 0, 10, .inl q8_22)), (s9, .inl (T 0, 10, .inl q9_23)), (s10, .inl (T 0, 10, .inl q10_24))] H locs := V
            show W p l e _ s m args below meth c H locs _ _ _ (F0 m 63 ls [.int z_10])
            refine lv_istore (lv' := [(7, .int z_10), (6, .int (nI k34)), (5, .int x34_5), (4, .int x34_4), (3, .int (nI 0)), (0, .ref o), (1, .int bl), (2, .int (nI j_2))]) hx hb dX7_bestPlace_63 hl (by decide) rfl (fun ls hl => ?_)
            refine lv_iload hx hb dX7_bestPlace_65 (lv_at hl 0 rfl) ?_
            refine lv_iload hx hb dX7_bestPlace_67 (lv_at hl 2 rfl) ?_
            refine lv_icmp_le (tgt := 80) hx hb dX7_bestPlace_69 (by decide) (fun c_25 => ?_) (fun c_25 => ?_)
            · skip
              refine lv_iinc (v := (nI (k34 + 1))) (lv' := [(6, .int (nI (k34 + 1))), (7, .int z_10), (5, .int x34_5), (4, .int x34_4), (3, .int (nI 0)), (0, .ref o), (1, .int bl), (2, .int (nI j_2))]) hx hb dX7_bestPlace_80 hl (k := 1) rfl (nI_1 _) (by decide) rfl (fun ls hl => ?_)
              refine lv_goto (tgt := 34) hx hb dX7_bestPlace_83 (by decide) ?_
              exact ih_34 (k34 + 1) x34_5 x34_4 (nI nn) xm_11 xl_12 xo_13 xu_14 q1_15 q2_16 q3_17 q4_18 q5_19 q6_20 q7_21 q8_22 q9_23 q10_24 (by omega) (by omega) _ _ _ V (lv_sub hl [0, 2, 3, 4, 5, 6, 7] rfl)
            · skip
              refine lv_iload hx hb dX7_bestPlace_72 (lv_at hl 0 rfl) ?_
              refine lv_istore (lv' := [(5, .int z_10), (7, .int z_10), (6, .int (nI k34)), (4, .int x34_4), (3, .int (nI 0)), (0, .ref o), (1, .int bl), (2, .int (nI j_2))]) hx hb dX7_bestPlace_74 hl (by decide) rfl (fun ls hl => ?_)
              refine lv_iload hx hb dX7_bestPlace_76 (lv_at hl 2 rfl) ?_
              refine lv_istore (lv' := [(4, .int (nI k34)), (5, .int z_10), (7, .int z_10), (6, .int (nI k34)), (3, .int (nI 0)), (0, .ref o), (1, .int bl), (2, .int (nI j_2))]) hx hb dX7_bestPlace_78 hl (by decide) rfl (fun ls hl => ?_)
              refine lv_iinc (v := (nI (k34 + 1))) (lv' := [(6, .int (nI (k34 + 1))), (4, .int (nI k34)), (5, .int z_10), (7, .int z_10), (3, .int (nI 0)), (0, .ref o), (1, .int bl), (2, .int (nI j_2))]) hx hb dX7_bestPlace_80 hl (k := 3) rfl (nI_1 _) (by decide) rfl (fun ls hl => ?_)
              refine lv_goto (tgt := 34) hx hb dX7_bestPlace_83 (by decide) ?_
              exact ih_34 (k34 + 1) z_10 (nI k34) (nI nn) xm_11 xl_12 xo_13 xu_14 q1_15 q2_16 q3_17 q4_18 q5_19 q6_20 q7_21 q8_22 q9_23 q10_24 (by omega) (by omega) _ _ _ V (lv_sub hl [0, 2, 1, 4, 5, 6, 7] rfl)
      exact L_8 _ 0 (-1) (nI 0) sn sm sl so su sf1 sf2 sf3 sf4 sf5 sf6 sf7 sf8 sf9 sf10 (by omega) (Nat.lt_succ_self _) _ _ _ V (lv_sub hl [0, 1, 2, 3, 4, 5, 6] rfl)
    · have V : gW D T A s [(o, .inr (7, [.ref n0, .ref s0, .ref im, .ref iz, .ref rw, .ref t0, .ref u0, .ref h0, .ref y0, sv])), (n0, .inr (5, [.int (nI nn), .int nm, .int nl, .int no, .int nu, .ref n1, .ref n2, .ref n3, .ref n4, .ref n5, .ref n6, .ref n7, .ref n8, .ref n9, .ref n10])), (n1, .inl (T 0, 10, .inl nf1)), (n2, .inl (T 0, 10, .inl nf2)), (n3, .inl (T 0, 10, .inl nf3)), (n4, .inl (T 0, 10, .inl nf4)), (n5, .inl (T 0, 10, .inl nf5)), (n6, .inl (T 0, 10, .inl nf6)), (n7, .inl (T 0, 10, .inl nf7)), (n8, .inl (T 0, 10, .inl nf8)), (n9, .inl (T 0, 10, .inl nf9)), (s0, .inr (5, [.int sn, .int sm, .int sl, .int so, .int su, .ref s1, .ref s2, .ref s3, .ref s4, .ref s5, .ref s6, .ref s7, .ref s8, .ref s9, .ref s10])), (s1, .inl (T 0, 10, .inl sf1)), (s2, .inl (T 0, 10, .inl sf2)), (s3, .inl (T 0, 10, .inl sf3)), (s4, .inl (T 0, 10, .inl sf4)), (s5, .inl (T 0, 10, .inl sf5)), (s6, .inl (T 0, 10, .inl sf6)), (s7, .inl (T 0, 10, .inl sf7)), (s8, .inl (T 0, 10, .inl sf8)), (s9, .inl (T 0, 10, .inl sf9)), (s10, .inl (T 0, 10, .inl sf10))] H locs := V _ [0, 0] rfl rfl rfl (by decide +kernel) rfl
      show W p l e _ s m args below meth c H locs _ _ _ (F0 m 18 ls [.int z_6])
      refine lv_istore_n (lv' := [(3, .int z_6), (0, .ref o), (1, .int bl), (2, .int n)]) hx hb dX7_bestPlace_18 rfl hl (by decide) rfl (fun ls hl => ?_)
      refine lv_iload_n hx hb dX7_bestPlace_19 rfl (lv_at hl 0 rfl) ?_
      refine lv_if_eq (tgt := 25) hx hb dX7_bestPlace_20 (by decide) (fun c_26 => ?_) (fun c_26 => ?_)
      · skip
        exact (absurd c_26 (by assumption) : False).elim
      · skip
        refine lv_iload_n hx hb dX7_bestPlace_23 rfl (lv_at hl 0 rfl) ?_
        exact g_iret (Qr := (q_x_bestPlace T o bl n n0 s0 im iz rw t0 u0 h0 y0 sv nn nm nl no nu n1 n2 n3 n4 n5 n6 n7 n8 n9 n10 nf1 nf2 nf3 nf4 nf5 nf6 nf7 nf8 nf9 sn sm sl so su s1 s2 s3 s4 s5 s6 s7 s8 s9 s10 sf1 sf2 sf3 sf4 sf5 sf6 sf7 sf8 sf9 sf10)) hC V ⟨(Nat.le_of_ble_eq_true rfl), (Nat.le_of_ble_eq_true rfl)⟩ ⟨z_6, sn, sm, sl, so, su, sf1, sf2, sf3, sf4, sf5, sf6, sf7, sf8, sf9, sf10, rfl, rfl⟩ dX7_bestPlace_24
  · skip
    rw [show (0 : Int32) = nI 0 from rfl] at c_1
    have c_1 := b_eq (by omega) (by omega) c_1
    refine lv_iconst (v := (-1)) hx hb dX7_bestPlace_10 (by decide +kernel) ?_
    exact g_iret (Qr := (q_x_bestPlace T o bl n n0 s0 im iz rw t0 u0 h0 y0 sv nn nm nl no nu n1 n2 n3 n4 n5 n6 n7 n8 n9 n10 nf1 nf2 nf3 nf4 nf5 nf6 nf7 nf8 nf9 sn sm sl so su s1 s2 s3 s4 s5 s6 s7 s8 s9 s10 sf1 sf2 sf3 sf4 sf5 sf6 sf7 sf8 sf9 sf10)) hC V ⟨(Nat.le_of_ble_eq_true rfl), (Nat.le_of_ble_eq_true rfl)⟩ ⟨(-1), sn, sm, sl, so, su, sf1, sf2, sf3, sf4, sf5, sf6, sf7, sf8, sf9, sf10, rfl, rfl⟩ dX7_bestPlace_11

def q_x_doneBySwapped (T : Nat → ClassId) (o : Nat) (cn : Nat) (i : Nat) (j : Nat) (n0 : Nat) (s0 : Nat) (im : Nat) (iz : Nat) (rw : Nat) (t0 : Nat) (u0 : Nat) (h0 : Nat) (y0 : Nat) (sv : Value) (nn : Nat) (nm : Int32) (nl : Int32) (no : Int32) (nu : Int32) (n1 : Nat) (n2 : Nat) (n3 : Nat) (n4 : Nat) (n5 : Nat) (n6 : Nat) (n7 : Nat) (n8 : Nat) (n9 : Nat) (n10 : Nat) (nf1 : Nat → Int32) (nf2 : Nat → Int32) (nf3 : Nat → Int32) (nf4 : Nat → Int32) (nf5 : Nat → Int32) (nf6 : Nat → Int32) (nf7 : Nat → Int32) (nf8 : Nat → Int32) (nf9 : Nat → Int32) (sn : Int32) (sm : Int32) (sl : Int32) (so : Int32) (su : Int32) (s1 : Nat) (s2 : Nat) (s3 : Nat) (s4 : Nat) (s5 : Nat) (s6 : Nat) (s7 : Nat) (s8 : Nat) (s9 : Nat) (s10 : Nat) (sf1 : Nat → Int32) (sf2 : Nat → Int32) (sf3 : Nat → Int32) (sf4 : Nat → Int32) (sf5 : Nat → Int32) (sf6 : Nat → Int32) (sf7 : Nat → Int32) (sf8 : Nat → Int32) (sf9 : Nat → Int32) (sf10 : Nat → Int32) : Option Value → va_W → Prop := fun rr ww => (∃ (z : Int32) (xm : Int32) (xl : Int32) (xo : Int32) (xu : Int32) (q1 : Nat → Int32) (q2 : Nat → Int32) (q3 : Nat → Int32) (q4 : Nat → Int32) (q5 : Nat → Int32) (q6 : Nat → Int32) (q7 : Nat → Int32) (q8 : Nat → Int32) (q9 : Nat → Int32) (q10 : Nat → Int32), rr = some (.int z) ∧ ww = [(o, .inr (7, [.ref n0, .ref s0, .ref im, .ref iz, .ref rw, .ref t0, .ref u0, .ref h0, .ref y0, sv])), (n0, .inr (5, [.int (nI nn), .int nm, .int nl, .int no, .int nu, .ref n1, .ref n2, .ref n3, .ref n4, .ref n5, .ref n6, .ref n7, .ref n8, .ref n9, .ref n10])), (n1, .inl (T 0, 10, .inl nf1)), (n2, .inl (T 0, 10, .inl nf2)), (n3, .inl (T 0, 10, .inl nf3)), (n4, .inl (T 0, 10, .inl nf4)), (n5, .inl (T 0, 10, .inl nf5)), (n6, .inl (T 0, 10, .inl nf6)), (n7, .inl (T 0, 10, .inl nf7)), (n8, .inl (T 0, 10, .inl nf8)), (n9, .inl (T 0, 10, .inl nf9)), (s0, .inr (5, [.int (nI nn), .int xm, .int xl, .int xo, .int xu, .ref s1, .ref s2, .ref s3, .ref s4, .ref s5, .ref s6, .ref s7, .ref s8, .ref s9, .ref s10])), (s1, .inl (T 0, 10, .inl q1)), (s2, .inl (T 0, 10, .inl q2)), (s3, .inl (T 0, 10, .inl q3)), (s4, .inl (T 0, 10, .inl q4)), (s5, .inl (T 0, 10, .inl q5)), (s6, .inl (T 0, 10, .inl q6)), (s7, .inl (T 0, 10, .inl q7)), (s8, .inl (T 0, 10, .inl q8)), (s9, .inl (T 0, 10, .inl q9)), (s10, .inl (T 0, 10, .inl q10))])
set_option maxHeartbeats 4000000 in
set_option maxRecDepth 100000 in
theorem x_doneBySwapped (l : Launch) (D : va_G) (T : Nat → ClassId) (o : Nat) (cn : Nat) (i : Nat) (j : Nat) (n0 : Nat) (s0 : Nat) (im : Nat) (iz : Nat) (rw : Nat) (t0 : Nat) (u0 : Nat) (h0 : Nat) (y0 : Nat) (sv : Value) (nn : Nat) (nm : Int32) (nl : Int32) (no : Int32) (nu : Int32) (n1 : Nat) (n2 : Nat) (n3 : Nat) (n4 : Nat) (n5 : Nat) (n6 : Nat) (n7 : Nat) (n8 : Nat) (n9 : Nat) (n10 : Nat) (nf1 : Nat → Int32) (nf2 : Nat → Int32) (nf3 : Nat → Int32) (nf4 : Nat → Int32) (nf5 : Nat → Int32) (nf6 : Nat → Int32) (nf7 : Nat → Int32) (nf8 : Nat → Int32) (nf9 : Nat → Int32) (sn : Int32) (sm : Int32) (sl : Int32) (so : Int32) (su : Int32) (s1 : Nat) (s2 : Nat) (s3 : Nat) (s4 : Nat) (s5 : Nat) (s6 : Nat) (s7 : Nat) (s8 : Nat) (s9 : Nat) (s10 : Nat) (sf1 : Nat → Int32) (sf2 : Nat → Int32) (sf3 : Nat → Int32) (sf4 : Nat → Int32) (sf5 : Nat → Int32) (sf6 : Nat → Int32) (sf7 : Nat → Int32) (sf8 : Nat → Int32) (sf9 : Nat → Int32) (sf10 : Nat → Int32) (h_n : nn ≤ 10) (h_t : ∀ i, i < nn → bd (nf9 i) nn) (h_c : cn ≤ 1000) (h_i : i < nn) (h_j : j < nn) : Ct l yX7_doneBySwapped cX7_doneBySwapped 4 (some .int) 5 0 0 D T [.ref o, .int (nI cn), .int (nI i), .int (nI j)] [(o, .inr (7, [.ref n0, .ref s0, .ref im, .ref iz, .ref rw, .ref t0, .ref u0, .ref h0, .ref y0, sv])), (n0, .inr (5, [.int (nI nn), .int nm, .int nl, .int no, .int nu, .ref n1, .ref n2, .ref n3, .ref n4, .ref n5, .ref n6, .ref n7, .ref n8, .ref n9, .ref n10])), (n1, .inl (T 0, 10, .inl nf1)), (n2, .inl (T 0, 10, .inl nf2)), (n3, .inl (T 0, 10, .inl nf3)), (n4, .inl (T 0, 10, .inl nf4)), (n5, .inl (T 0, 10, .inl nf5)), (n6, .inl (T 0, 10, .inl nf6)), (n7, .inl (T 0, 10, .inl nf7)), (n8, .inl (T 0, 10, .inl nf8)), (n9, .inl (T 0, 10, .inl nf9)), (s0, .inr (5, [.int sn, .int sm, .int sl, .int so, .int su, .ref s1, .ref s2, .ref s3, .ref s4, .ref s5, .ref s6, .ref s7, .ref s8, .ref s9, .ref s10])), (s1, .inl (T 0, 10, .inl sf1)), (s2, .inl (T 0, 10, .inl sf2)), (s3, .inl (T 0, 10, .inl sf3)), (s4, .inl (T 0, 10, .inl sf4)), (s5, .inl (T 0, 10, .inl sf5)), (s6, .inl (T 0, 10, .inl sf6)), (s7, .inl (T 0, 10, .inl sf7)), (s8, .inl (T 0, 10, .inl sf8)), (s9, .inl (T 0, 10, .inl sf9)), (s10, .inl (T 0, 10, .inl sf10))] (q_x_doneBySwapped T o cn i j n0 s0 im iz rw t0 u0 h0 y0 sv nn nm nl no nu n1 n2 n3 n4 n5 n6 n7 n8 n9 n10 nf1 nf2 nf3 nf4 nf5 nf6 nf7 nf8 nf9 sn sm sl so su s1 s2 s3 s4 s5 s6 s7 s8 s9 s10 sf1 sf2 sf3 sf4 sf5 sf6 sf7 sf8 sf9 sf10) := by
  refine Ct.of (cc := cX7_doneBySwapped) (maxL := 4) (ret := (some .int)) (by decide) (Nat.le_of_ble_eq_true rfl) ?_
  intro p e s m args below meth c A ls hC hnm V hl
  obtain ⟨hx, hb, hr, hml, hown, hts, hlocks⟩ := id hC
  generalize hH : s.heap = H at V ⊢
  clear hH
  have hl : lv_has ls 4 [(0, .ref o), (1, .int (nI cn)), (2, .int (nI i)), (3, .int (nI j))] := hl
  generalize hlo : ([] : List Loc) = locs at V ⊢
  clear hlo
  refine lv_aload_n hx hb dX7_doneBySwapped_0 rfl (lv_at hl 0 rfl) ?_
  refine g_get hC V (ci := 7) uwX7 0 rfl rfl 1 (by decide) w_250 rfl rfl dX7_doneBySwapped_1 ?_
  refine lv_aload_n hx hb dX7_doneBySwapped_4 rfl (lv_at hl 0 rfl) ?_
  refine g_get hC V (ci := 7) uwX7 0 rfl rfl 0 (by decide) w_249 rfl rfl dX7_doneBySwapped_5 ?_
  refine g_callVU (nA := 1) hC V hl.1 (s_takeFrom l D T s0 n0 sn sm sl so su s1 s2 s3 s4 s5 s6 s7 s8 s9 s10 sf1 sf2 sf3 sf4 sf5 sf6 sf7 sf8 sf9 nn nm nl no nu n1 n2 n3 n4 n5 n6 n7 n8 n9 n10 nf1 nf2 nf3 nf4 nf5 nf6 nf7 nf8 nf9 (by first | assumption | omega)) w_413 w_414 w_415 w_3 w_416 (by decide +kernel) rfl ⟨(Nat.le_of_ble_eq_true rfl), (Nat.le_of_ble_eq_true rfl)⟩ 11 (ci := 5) rfl rfl [11, 12, 13, 14, 15, 16, 17, 18, 19, 20, 1, 2, 3, 4, 5, 6, 7, 8, 9, 10] rfl rfl (Nat.le_of_ble_eq_true rfl) dX7_doneBySwapped_8 ⟨(Nat.le_of_ble_eq_true rfl), (Nat.le_of_ble_eq_true rfl)⟩ rfl (fun r w1 H locs hQ V => ?_)
  obtain ⟨p1, p2, p3, p4, p5, p6, p7, p8, p9, rfl, rfl, f_1, f_2, f_3, f_4, f_5, f_6, f_7, f_8, f_9⟩ := hQ
  have V : gW D T A s [(o, .inr (7, [.ref n0, .ref s0, .ref im, .ref iz, .ref rw, .ref t0, .ref u0, .ref h0, .ref y0, sv])), (n0, .inr (5, [.int (nI nn), .int nm, .int nl, .int no, .int nu, .ref n1, .ref n2, .ref n3, .ref n4, .ref n5, .ref n6, .ref n7, .ref n8, .ref n9, .ref n10])), (n1, .inl (T 0, 10, .inl nf1)), (n2, .inl (T 0, 10, .inl nf2)), (n3, .inl (T 0, 10, .inl nf3)), (n4, .inl (T 0, 10, .inl nf4)), (n5, .inl (T 0, 10, .inl nf5)), (n6, .inl (T 0, 10, .inl nf6)), (n7, .inl (T 0, 10, .inl nf7)), (n8, .inl (T 0, 10, .inl nf8)), (n9, .inl (T 0, 10, .inl nf9)), (s0, .inr (5, [.int (nI nn), .int nm, .int nl, .int no, .int nu, .ref s1, .ref s2, .ref s3, .ref s4, .ref s5, .ref s6, .ref s7, .ref s8, .ref s9, .ref s10])), (s1, .inl (T 0, 10, .inl p1)), (s2, .inl (T 0, 10, .inl p2)), (s3, .inl (T 0, 10, .inl p3)), (s4, .inl (T 0, 10, .inl p4)), (s5, .inl (T 0, 10, .inl p5)), (s6, .inl (T 0, 10, .inl p6)), (s7, .inl (T 0, 10, .inl p7)), (s8, .inl (T 0, 10, .inl p8)), (s9, .inl (T 0, 10, .inl p9)), (s10, .inl (T 0, 10, .inl sf10))] H locs := V _ [1, 0, 0, 0, 0, 0, 0, 0, 0, 0, 0, 0, 0, 0, 0, 0, 0, 0, 0, 0] rfl rfl rfl (by decide +kernel) rfl
  show W p l e _ s m args below meth c H locs _ _ _ (F0 m 11 ls [])
  have hp9 : ∀ i, i < nn → bd (p9 i) nn := fun i h => by rw [f_9 i h]; exact h_t i h
  refine lv_aload_n hx hb dX7_doneBySwapped_11 rfl (lv_at hl 0 rfl) ?_
  refine g_get hC V (ci := 7) uwX7 0 rfl rfl 1 (by decide) w_250 rfl rfl dX7_doneBySwapped_12 ?_
  refine g_get hC V (ci := 5) uwX5 11 rfl rfl 5 (by decide) w_54 rfl rfl dX7_doneBySwapped_15 ?_
  refine lv_iload_n hx hb dX7_doneBySwapped_18 rfl (lv_at hl 2 rfl) ?_
  refine lv_aload_n hx hb dX7_doneBySwapped_19 rfl (lv_at hl 0 rfl) ?_
  refine g_get hC V (ci := 7) uwX7 0 rfl rfl 0 (by decide) w_249 rfl rfl dX7_doneBySwapped_20 ?_
  refine g_get hC V (ci := 5) uwX5 1 rfl rfl 5 (by decide) w_54 rfl rfl dX7_doneBySwapped_23 ?_
  refine lv_iload_n hx hb dX7_doneBySwapped_26 rfl (lv_at hl 3 rfl) ?_
  refine g_iald hC V 2 rfl (vp_in_nI (by omega) (by omega)) (v := (nf1 j)) (congrArg _ (nI_clamp (by omega))) dX7_doneBySwapped_27 ?_
  refine g_iast hC V 12 rfl (vp_in_nI (by omega) (by omega)) (f' := (upd p1 i (nf1 j))) (by rw [nI_clamp (by omega)]) (ws' := [(o, .inr (7, [.ref n0, .ref s0, .ref im, .ref iz, .ref rw, .ref t0, .ref u0, .ref h0, .ref y0, sv])), (n0, .inr (5, [.int (nI nn), .int nm, .int nl, .int no, .int nu, .ref n1, .ref n2, .ref n3, .ref n4, .ref n5, .ref n6, .ref n7, .ref n8, .ref n9, .ref n10])), (n1, .inl (T 0, 10, .inl nf1)), (n2, .inl (T 0, 10, .inl nf2)), (n3, .inl (T 0, 10, .inl nf3)), (n4, .inl (T 0, 10, .inl nf4)), (n5, .inl (T 0, 10, .inl nf5)), (n6, .inl (T 0, 10, .inl nf6)), (n7, .inl (T 0, 10, .inl nf7)), (n8, .inl (T 0, 10, .inl nf8)), (n9, .inl (T 0, 10, .inl nf9)), (s0, .inr (5, [.int (nI nn), .int nm, .int nl, .int no, .int nu, .ref s1, .ref s2, .ref s3, .ref s4, .ref s5, .ref s6, .ref s7, .ref s8, .ref s9, .ref s10])), (s1, .inl (T 0, 10, .inl (upd p1 i (nf1 j)))), (s2, .inl (T 0, 10, .inl p2)), (s3, .inl (T 0, 10, .inl p3)), (s4, .inl (T 0, 10, .inl p4)), (s5, .inl (T 0, 10, .inl p5)), (s6, .inl (T 0, 10, .inl p6)), (s7, .inl (T 0, 10, .inl p7)), (s8, .inl (T 0, 10, .inl p8)), (s9, .inl (T 0, 10, .inl p9)), (s10, .inl (T 0, 10, .inl sf10))]) rfl dX7_doneBySwapped_28 (fun H locs V => ?_)
  refine lv_aload_n hx hb dX7_doneBySwapped_29 rfl (lv_at hl 0 rfl) ?_
  refine g_get hC V (ci := 7) uwX7 0 rfl rfl 1 (by decide) w_250 rfl rfl dX7_doneBySwapped_30 ?_
  refine g_get hC V (ci := 5) uwX5 11 rfl rfl 5 (by decide) w_54 rfl rfl dX7_doneBySwapped_33 ?_
  refine lv_iload_n hx hb dX7_doneBySwapped_36 rfl (lv_at hl 3 rfl) ?_
  refine lv_aload_n hx hb dX7_doneBySwapped_37 rfl (lv_at hl 0 rfl) ?_
  refine g_get hC V (ci := 7) uwX7 0 rfl rfl 0 (by decide) w_249 rfl rfl dX7_doneBySwapped_38 ?_
  refine g_get hC V (ci := 5) uwX5 1 rfl rfl 5 (by decide) w_54 rfl rfl dX7_doneBySwapped_41 ?_
  refine lv_iload_n hx hb dX7_doneBySwapped_44 rfl (lv_at hl 2 rfl) ?_
  refine g_iald hC V 2 rfl (vp_in_nI (by omega) (by omega)) (v := (nf1 i)) (congrArg _ (nI_clamp (by omega))) dX7_doneBySwapped_45 ?_
  refine g_iast hC V 12 rfl (vp_in_nI (by omega) (by omega)) (f' := (upd (upd p1 i (nf1 j)) j (nf1 i))) (by rw [nI_clamp (by omega)]) (ws' := [(o, .inr (7, [.ref n0, .ref s0, .ref im, .ref iz, .ref rw, .ref t0, .ref u0, .ref h0, .ref y0, sv])), (n0, .inr (5, [.int (nI nn), .int nm, .int nl, .int no, .int nu, .ref n1, .ref n2, .ref n3, .ref n4, .ref n5, .ref n6, .ref n7, .ref n8, .ref n9, .ref n10])), (n1, .inl (T 0, 10, .inl nf1)), (n2, .inl (T 0, 10, .inl nf2)), (n3, .inl (T 0, 10, .inl nf3)), (n4, .inl (T 0, 10, .inl nf4)), (n5, .inl (T 0, 10, .inl nf5)), (n6, .inl (T 0, 10, .inl nf6)), (n7, .inl (T 0, 10, .inl nf7)), (n8, .inl (T 0, 10, .inl nf8)), (n9, .inl (T 0, 10, .inl nf9)), (s0, .inr (5, [.int (nI nn), .int nm, .int nl, .int no, .int nu, .ref s1, .ref s2, .ref s3, .ref s4, .ref s5, .ref s6, .ref s7, .ref s8, .ref s9, .ref s10])), (s1, .inl (T 0, 10, .inl (upd (upd p1 i (nf1 j)) j (nf1 i)))), (s2, .inl (T 0, 10, .inl p2)), (s3, .inl (T 0, 10, .inl p3)), (s4, .inl (T 0, 10, .inl p4)), (s5, .inl (T 0, 10, .inl p5)), (s6, .inl (T 0, 10, .inl p6)), (s7, .inl (T 0, 10, .inl p7)), (s8, .inl (T 0, 10, .inl p8)), (s9, .inl (T 0, 10, .inl p9)), (s10, .inl (T 0, 10, .inl sf10))]) rfl dX7_doneBySwapped_46 (fun H locs V => ?_)
  refine lv_aload_n hx hb dX7_doneBySwapped_47 rfl (lv_at hl 0 rfl) ?_
  refine g_get hC V (ci := 7) uwX7 0 rfl rfl 1 (by decide) w_250 rfl rfl dX7_doneBySwapped_48 ?_
  refine lv_iload_n hx hb dX7_doneBySwapped_51 rfl (lv_at hl 1 rfl) ?_
  refine lv_iconst (v := (nI 0)) hx hb dX7_doneBySwapped_52 (by decide +kernel) ?_
  refine lv_iconst (v := (-1)) hx hb dX7_doneBySwapped_53 (by decide +kernel) ?_
  refine lv_iconst (v := (nI 0)) hx hb dX7_doneBySwapped_54 (by decide +kernel) ?_
  refine g_callVU (nA := 4) hC V hl.1 (s_passAll l D T s0 cn (nI 0) (-1) (nI 0) nn nm nl no nu s1 s2 s3 s4 s5 s6 s7 s8 s9 s10 (upd (upd p1 i (nf1 j)) j (nf1 i)) p2 p3 p4 p5 p6 p7 p8 p9 sf10 (by first | assumption | omega) hp9 (by first | assumption | omega)) w_540 w_541 w_542 w_3 w_543 (by decide +kernel) rfl ⟨(Nat.le_of_ble_eq_true rfl), (Nat.le_of_ble_eq_true rfl)⟩ 11 (ci := 5) rfl rfl [11, 12, 13, 14, 15, 16, 17, 18, 19, 20, 21] rfl rfl (Nat.le_of_ble_eq_true rfl) dX7_doneBySwapped_55 ⟨(Nat.le_of_ble_eq_true rfl), (Nat.le_of_ble_eq_true rfl)⟩ rfl (fun r w1 H locs hQ V => ?_)
  obtain ⟨z_10, u_11, mm_12, g3_13, g7_14, g8_15, g10_16, rfl, rfl⟩ := hQ
  have V : gW D T A s [(o, .inr (7, [.ref n0, .ref s0, .ref im, .ref iz, .ref rw, .ref t0, .ref u0, .ref h0, .ref y0, sv])), (n0, .inr (5, [.int (nI nn), .int nm, .int nl, .int no, .int nu, .ref n1, .ref n2, .ref n3, .ref n4, .ref n5, .ref n6, .ref n7, .ref n8, .ref n9, .ref n10])), (n1, .inl (T 0, 10, .inl nf1)), (n2, .inl (T 0, 10, .inl nf2)), (n3, .inl (T 0, 10, .inl nf3)), (n4, .inl (T 0, 10, .inl nf4)), (n5, .inl (T 0, 10, .inl nf5)), (n6, .inl (T 0, 10, .inl nf6)), (n7, .inl (T 0, 10, .inl nf7)), (n8, .inl (T 0, 10, .inl nf8)), (n9, .inl (T 0, 10, .inl nf9)), (s0, .inr (5, [.int (nI nn), .int mm_12, .int nl, .int no, .int u_11, .ref s1, .ref s2, .ref s3, .ref s4, .ref s5, .ref s6, .ref s7, .ref s8, .ref s9, .ref s10])), (s1, .inl (T 0, 10, .inl (upd (upd p1 i (nf1 j)) j (nf1 i)))), (s2, .inl (T 0, 10, .inl p2)), (s3, .inl (T 0, 10, .inl g3_13)), (s4, .inl (T 0, 10, .inl p4)), (s5, .inl (T 0, 10, .inl p5)), (s6, .inl (T 0, 10, .inl p6)), (s7, .inl (T 0, 10, .inl g7_14)), (s8, .inl (T 0, 10, .inl g8_15)), (s9, .inl (T 0, 10, .inl p9)), (s10, .inl (T 0, 10, .inl g10_16))] H locs := V _ [11, 0, 0, 0, 0, 0, 0, 0, 0, 0, 0] rfl rfl rfl (by decide +kernel) rfl
  show W p l e _ s m args below meth c H locs _ _ _ (F0 m 58 ls [.int z_10])
  refine lv_pop hx hb dX7_doneBySwapped_58 rfl ?_
  refine lv_aload_n hx hb dX7_doneBySwapped_59 rfl (lv_at hl 0 rfl) ?_
  refine g_get hC V (ci := 7) uwX7 0 rfl rfl 1 (by decide) w_250 rfl rfl dX7_doneBySwapped_60 ?_
  refine g_callVU (nA := 0) hC V hl.1 (s_piecesDone l D T s0 nn mm_12 nl no u_11 s1 s2 s3 s4 s5 s6 s7 s8 s9 s10 p6 g7_14 (by first | assumption | omega)) w_516 w_517 w_518 w_3 w_519 (by decide +kernel) rfl ⟨(Nat.le_of_ble_eq_true rfl), (Nat.le_of_ble_eq_true rfl)⟩ 11 (ci := 5) rfl rfl [11, 17, 18] rfl rfl (Nat.le_of_ble_eq_true rfl) dX7_doneBySwapped_63 ⟨(Nat.le_of_ble_eq_true rfl), (Nat.le_of_ble_eq_true rfl)⟩ rfl (fun r w1 H locs hQ V => ?_)
  obtain ⟨z_17, rfl, rfl⟩ := hQ
  have V : gW D T A s [(o, .inr (7, [.ref n0, .ref s0, .ref im, .ref iz, .ref rw, .ref t0, .ref u0, .ref h0, .ref y0, sv])), (n0, .inr (5, [.int (nI nn), .int nm, .int nl, .int no, .int nu, .ref n1, .ref n2, .ref n3, .ref n4, .ref n5, .ref n6, .ref n7, .ref n8, .ref n9, .ref n10])), (n1, .inl (T 0, 10, .inl nf1)), (n2, .inl (T 0, 10, .inl nf2)), (n3, .inl (T 0, 10, .inl nf3)), (n4, .inl (T 0, 10, .inl nf4)), (n5, .inl (T 0, 10, .inl nf5)), (n6, .inl (T 0, 10, .inl nf6)), (n7, .inl (T 0, 10, .inl nf7)), (n8, .inl (T 0, 10, .inl nf8)), (n9, .inl (T 0, 10, .inl nf9)), (s0, .inr (5, [.int (nI nn), .int mm_12, .int nl, .int no, .int u_11, .ref s1, .ref s2, .ref s3, .ref s4, .ref s5, .ref s6, .ref s7, .ref s8, .ref s9, .ref s10])), (s1, .inl (T 0, 10, .inl (upd (upd p1 i (nf1 j)) j (nf1 i)))), (s2, .inl (T 0, 10, .inl p2)), (s3, .inl (T 0, 10, .inl g3_13)), (s4, .inl (T 0, 10, .inl p4)), (s5, .inl (T 0, 10, .inl p5)), (s6, .inl (T 0, 10, .inl p6)), (s7, .inl (T 0, 10, .inl g7_14)), (s8, .inl (T 0, 10, .inl g8_15)), (s9, .inl (T 0, 10, .inl p9)), (s10, .inl (T 0, 10, .inl g10_16))] H locs := V _ [11, 5, 0] rfl rfl rfl (by decide +kernel) rfl
  show W p l e _ s m args below meth c H locs _ _ _ (F0 m 66 ls [.int z_17])
  exact g_iret (Qr := (q_x_doneBySwapped T o cn i j n0 s0 im iz rw t0 u0 h0 y0 sv nn nm nl no nu n1 n2 n3 n4 n5 n6 n7 n8 n9 n10 nf1 nf2 nf3 nf4 nf5 nf6 nf7 nf8 nf9 sn sm sl so su s1 s2 s3 s4 s5 s6 s7 s8 s9 s10 sf1 sf2 sf3 sf4 sf5 sf6 sf7 sf8 sf9 sf10)) hC V ⟨(Nat.le_of_ble_eq_true rfl), (Nat.le_of_ble_eq_true rfl)⟩ ⟨z_17, mm_12, nl, no, u_11, (upd (upd p1 i (nf1 j)) j (nf1 i)), p2, g3_13, p4, p5, p6, g7_14, g8_15, p9, g10_16, rfl, rfl⟩ dX7_doneBySwapped_66

def q_x_swapped (T : Nat → ClassId) (o : Nat) (n : Int32) (wh : Int32) (n0 : Nat) (s0 : Nat) (im : Nat) (iz : Nat) (rw : Nat) (t0 : Nat) (u0 : Nat) (h0 : Nat) (y0 : Nat) (sv : Value) (nn : Nat) (nm : Int32) (nl : Int32) (no : Int32) (nu : Int32) (n1 : Nat) (n2 : Nat) (n3 : Nat) (n4 : Nat) (n5 : Nat) (n6 : Nat) (n7 : Nat) (n8 : Nat) (n9 : Nat) (n10 : Nat) (nf1 : Nat → Int32) (nf2 : Nat → Int32) (nf3 : Nat → Int32) (nf4 : Nat → Int32) (nf5 : Nat → Int32) (nf6 : Nat → Int32) (nf7 : Nat → Int32) (nf8 : Nat → Int32) (nf9 : Nat → Int32) (sn : Int32) (sm : Int32) (sl : Int32) (so : Int32) (su : Int32) (s1 : Nat) (s2 : Nat) (s3 : Nat) (s4 : Nat) (s5 : Nat) (s6 : Nat) (s7 : Nat) (s8 : Nat) (s9 : Nat) (s10 : Nat) (sf1 : Nat → Int32) (sf2 : Nat → Int32) (sf3 : Nat → Int32) (sf4 : Nat → Int32) (sf5 : Nat → Int32) (sf6 : Nat → Int32) (sf7 : Nat → Int32) (sf8 : Nat → Int32) (sf9 : Nat → Int32) (sf10 : Nat → Int32) : Option Value → va_W → Prop := fun rr ww => (∃ (z : Int32) (xn : Int32) (xm : Int32) (xl : Int32) (xo : Int32) (xu : Int32) (q1 : Nat → Int32) (q2 : Nat → Int32) (q3 : Nat → Int32) (q4 : Nat → Int32) (q5 : Nat → Int32) (q6 : Nat → Int32) (q7 : Nat → Int32) (q8 : Nat → Int32) (q9 : Nat → Int32) (q10 : Nat → Int32), rr = some (.int z) ∧ ww = [(o, .inr (7, [.ref n0, .ref s0, .ref im, .ref iz, .ref rw, .ref t0, .ref u0, .ref h0, .ref y0, sv])), (n0, .inr (5, [.int (nI nn), .int nm, .int nl, .int no, .int nu, .ref n1, .ref n2, .ref n3, .ref n4, .ref n5, .ref n6, .ref n7, .ref n8, .ref n9, .ref n10])), (n1, .inl (T 0, 10, .inl nf1)), (n2, .inl (T 0, 10, .inl nf2)), (n3, .inl (T 0, 10, .inl nf3)), (n4, .inl (T 0, 10, .inl nf4)), (n5, .inl (T 0, 10, .inl nf5)), (n6, .inl (T 0, 10, .inl nf6)), (n7, .inl (T 0, 10, .inl nf7)), (n8, .inl (T 0, 10, .inl nf8)), (n9, .inl (T 0, 10, .inl nf9)), (s0, .inr (5, [.int xn, .int xm, .int xl, .int xo, .int xu, .ref s1, .ref s2, .ref s3, .ref s4, .ref s5, .ref s6, .ref s7, .ref s8, .ref s9, .ref s10])), (s1, .inl (T 0, 10, .inl q1)), (s2, .inl (T 0, 10, .inl q2)), (s3, .inl (T 0, 10, .inl q3)), (s4, .inl (T 0, 10, .inl q4)), (s5, .inl (T 0, 10, .inl q5)), (s6, .inl (T 0, 10, .inl q6)), (s7, .inl (T 0, 10, .inl q7)), (s8, .inl (T 0, 10, .inl q8)), (s9, .inl (T 0, 10, .inl q9)), (s10, .inl (T 0, 10, .inl q10))])
set_option maxHeartbeats 4000000 in
set_option maxRecDepth 100000 in
theorem x_swapped (l : Launch) (D : va_G) (T : Nat → ClassId) (o : Nat) (n : Int32) (wh : Int32) (n0 : Nat) (s0 : Nat) (im : Nat) (iz : Nat) (rw : Nat) (t0 : Nat) (u0 : Nat) (h0 : Nat) (y0 : Nat) (sv : Value) (nn : Nat) (nm : Int32) (nl : Int32) (no : Int32) (nu : Int32) (n1 : Nat) (n2 : Nat) (n3 : Nat) (n4 : Nat) (n5 : Nat) (n6 : Nat) (n7 : Nat) (n8 : Nat) (n9 : Nat) (n10 : Nat) (nf1 : Nat → Int32) (nf2 : Nat → Int32) (nf3 : Nat → Int32) (nf4 : Nat → Int32) (nf5 : Nat → Int32) (nf6 : Nat → Int32) (nf7 : Nat → Int32) (nf8 : Nat → Int32) (nf9 : Nat → Int32) (sn : Int32) (sm : Int32) (sl : Int32) (so : Int32) (su : Int32) (s1 : Nat) (s2 : Nat) (s3 : Nat) (s4 : Nat) (s5 : Nat) (s6 : Nat) (s7 : Nat) (s8 : Nat) (s9 : Nat) (s10 : Nat) (sf1 : Nat → Int32) (sf2 : Nat → Int32) (sf3 : Nat → Int32) (sf4 : Nat → Int32) (sf5 : Nat → Int32) (sf6 : Nat → Int32) (sf7 : Nat → Int32) (sf8 : Nat → Int32) (sf9 : Nat → Int32) (sf10 : Nat → Int32) (h_n : nn ≤ 10) (h_t : ∀ i, i < nn → bd (nf9 i) nn) : Ct l yX7_swapped cX7_swapped 10 (some .int) 6 0 0 D T [.ref o, .int n, .int wh] [(o, .inr (7, [.ref n0, .ref s0, .ref im, .ref iz, .ref rw, .ref t0, .ref u0, .ref h0, .ref y0, sv])), (n0, .inr (5, [.int (nI nn), .int nm, .int nl, .int no, .int nu, .ref n1, .ref n2, .ref n3, .ref n4, .ref n5, .ref n6, .ref n7, .ref n8, .ref n9, .ref n10])), (n1, .inl (T 0, 10, .inl nf1)), (n2, .inl (T 0, 10, .inl nf2)), (n3, .inl (T 0, 10, .inl nf3)), (n4, .inl (T 0, 10, .inl nf4)), (n5, .inl (T 0, 10, .inl nf5)), (n6, .inl (T 0, 10, .inl nf6)), (n7, .inl (T 0, 10, .inl nf7)), (n8, .inl (T 0, 10, .inl nf8)), (n9, .inl (T 0, 10, .inl nf9)), (s0, .inr (5, [.int sn, .int sm, .int sl, .int so, .int su, .ref s1, .ref s2, .ref s3, .ref s4, .ref s5, .ref s6, .ref s7, .ref s8, .ref s9, .ref s10])), (s1, .inl (T 0, 10, .inl sf1)), (s2, .inl (T 0, 10, .inl sf2)), (s3, .inl (T 0, 10, .inl sf3)), (s4, .inl (T 0, 10, .inl sf4)), (s5, .inl (T 0, 10, .inl sf5)), (s6, .inl (T 0, 10, .inl sf6)), (s7, .inl (T 0, 10, .inl sf7)), (s8, .inl (T 0, 10, .inl sf8)), (s9, .inl (T 0, 10, .inl sf9)), (s10, .inl (T 0, 10, .inl sf10))] (q_x_swapped T o n wh n0 s0 im iz rw t0 u0 h0 y0 sv nn nm nl no nu n1 n2 n3 n4 n5 n6 n7 n8 n9 n10 nf1 nf2 nf3 nf4 nf5 nf6 nf7 nf8 nf9 sn sm sl so su s1 s2 s3 s4 s5 s6 s7 s8 s9 s10 sf1 sf2 sf3 sf4 sf5 sf6 sf7 sf8 sf9 sf10) := by
  refine Ct.of (cc := cX7_swapped) (maxL := 10) (ret := (some .int)) (by decide) (Nat.le_of_ble_eq_true rfl) ?_
  intro p e s m args below meth c A ls hC hnm V hl
  obtain ⟨hx, hb, hr, hml, hown, hts, hlocks⟩ := id hC
  generalize hH : s.heap = H at V ⊢
  clear hH
  have hl : lv_has ls 10 [(0, .ref o), (1, .int n), (2, .int wh)] := hl
  generalize hlo : ([] : List Loc) = locs at V ⊢
  clear hlo
  refine lv_iload_n hx hb dX7_swapped_0 rfl (lv_at hl 2 rfl) ?_
  refine lv_iconst (v := (nI 0)) hx hb dX7_swapped_1 (by decide +kernel) ?_
  refine lv_iconst (v := (nI 1)) hx hb dX7_swapped_2 (by decide +kernel) ?_
  refine g_callSU (nA := 3) hC V hl.1 (c_isWithin l D T wh (nI 0) (nI 1)) w_292 w_293 w_2 w_294 (by decide +kernel) rfl ⟨(Nat.le_of_ble_eq_true rfl), (Nat.le_of_ble_eq_true rfl)⟩ [] rfl rfl (Nat.le_of_ble_eq_true rfl) dX7_swapped_3 ⟨(Nat.le_of_ble_eq_true rfl), (Nat.le_of_ble_eq_true rfl)⟩ rfl (fun r w1 H locs hQ V => ?_)
  rcases hQ with ⟨rfl, rfl, f_1, f_2⟩ | ⟨rfl, rfl, f_3⟩
  · have V : gW D T A s [(o, .inr (7, [.ref n0, .ref s0, .ref im, .ref iz, .ref rw, .ref t0, .ref u0, .ref h0, .ref y0, sv])), (n0, .inr (5, [.int (nI nn), .int nm, .int nl, .int no, .int nu, .ref n1, .ref n2, .ref n3, .ref n4, .ref n5, .ref n6, .ref n7, .ref n8, .ref n9, .ref n10])), (n1, .inl (T 0, 10, .inl nf1)), (n2, .inl (T 0, 10, .inl nf2)), (n3, .inl (T 0, 10, .inl nf3)), (n4, .inl (T 0, 10, .inl nf4)), (n5, .inl (T 0, 10, .inl nf5)), (n6, .inl (T 0, 10, .inl nf6)), (n7, .inl (T 0, 10, .inl nf7)), (n8, .inl (T 0, 10, .inl nf8)), (n9, .inl (T 0, 10, .inl nf9)), (s0, .inr (5, [.int sn, .int sm, .int sl, .int so, .int su, .ref s1, .ref s2, .ref s3, .ref s4, .ref s5, .ref s6, .ref s7, .ref s8, .ref s9, .ref s10])), (s1, .inl (T 0, 10, .inl sf1)), (s2, .inl (T 0, 10, .inl sf2)), (s3, .inl (T 0, 10, .inl sf3)), (s4, .inl (T 0, 10, .inl sf4)), (s5, .inl (T 0, 10, .inl sf5)), (s6, .inl (T 0, 10, .inl sf6)), (s7, .inl (T 0, 10, .inl sf7)), (s8, .inl (T 0, 10, .inl sf8)), (s9, .inl (T 0, 10, .inl sf9)), (s10, .inl (T 0, 10, .inl sf10))] H locs := V _ [] rfl rfl rfl (by decide +kernel) rfl
    show W p l e _ s m args below meth c H locs _ _ _ (F0 m 6 ls [.int (nI 1)])
    refine lv_if_ne (tgt := 12) hx hb dX7_swapped_6 (by decide) (fun _ => ?_) (fun c => absurd (show (nI 1) = 0 from c) (by decide +kernel))
    refine lv_aload_n hx hb dX7_swapped_12 rfl (lv_at hl 0 rfl) ?_
    refine lv_iload_n hx hb dX7_swapped_13 rfl (lv_at hl 1 rfl) ?_
    refine lv_sipush (v := (nI 200)) hx hb dX7_swapped_14 (by decide +kernel) ?_
    refine g_callVU (nA := 2) hC V hl.1 (x_refusedMinutes l D T o n 200 n0 s0 im iz rw t0 u0 h0 y0 sv nn nm nl no nu n1 n2 n3 n4 n5 n6 n7 n8 n9 n10 (by first | assumption | omega)) w_532 w_534 w_s12 w_2 w_535 (by decide +kernel) rfl ⟨(Nat.le_of_ble_eq_true rfl), (Nat.le_of_ble_eq_true rfl)⟩ 0 (ci := 7) rfl rfl [0, 1] rfl rfl (Nat.le_of_ble_eq_true rfl) dX7_swapped_17 ⟨(Nat.le_of_ble_eq_true rfl), (Nat.le_of_ble_eq_true rfl)⟩ rfl (fun r w1 H locs hQ V => ?_)
    rcases hQ with ⟨jn, rfl, rfl, f_4, f_5, f_6⟩ | ⟨z_7, rfl, rfl, f_8⟩
    · have V : gW D T A s [(o, .inr (7, [.ref n0, .ref s0, .ref im, .ref iz, .ref rw, .ref t0, .ref u0, .ref h0, .ref y0, sv])), (n0, .inr (5, [.int (nI nn), .int nm, .int nl, .int no, .int nu, .ref n1, .ref n2, .ref n3, .ref n4, .ref n5, .ref n6, .ref n7, .ref n8, .ref n9, .ref n10])), (n1, .inl (T 0, 10, .inl nf1)), (n2, .inl (T 0, 10, .inl nf2)), (n3, .inl (T 0, 10, .inl nf3)), (n4, .inl (T 0, 10, .inl nf4)), (n5, .inl (T 0, 10, .inl nf5)), (n6, .inl (T 0, 10, .inl nf6)), (n7, .inl (T 0, 10, .inl nf7)), (n8, .inl (T 0, 10, .inl nf8)), (n9, .inl (T 0, 10, .inl nf9)), (s0, .inr (5, [.int sn, .int sm, .int sl, .int so, .int su, .ref s1, .ref s2, .ref s3, .ref s4, .ref s5, .ref s6, .ref s7, .ref s8, .ref s9, .ref s10])), (s1, .inl (T 0, 10, .inl sf1)), (s2, .inl (T 0, 10, .inl sf2)), (s3, .inl (T 0, 10, .inl sf3)), (s4, .inl (T 0, 10, .inl sf4)), (s5, .inl (T 0, 10, .inl sf5)), (s6, .inl (T 0, 10, .inl sf6)), (s7, .inl (T 0, 10, .inl sf7)), (s8, .inl (T 0, 10, .inl sf8)), (s9, .inl (T 0, 10, .inl sf9)), (s10, .inl (T 0, 10, .inl sf10))] H locs := V _ [0, 0] rfl rfl rfl (by decide +kernel) rfl
      show W p l e _ s m args below meth c H locs _ _ _ (F0 m 20 ls [.int (nI 0)])
      rw [f_6] at hl
      refine lv_istore_n (lv' := [(3, .int (nI 0)), (0, .ref o), (1, .int (nI jn)), (2, .int wh)]) hx hb dX7_swapped_20 rfl hl (by decide) rfl (fun ls hl => ?_)
      refine lv_iload_n hx hb dX7_swapped_21 rfl (lv_at hl 0 rfl) ?_
      refine lv_if_eq (tgt := 27) hx hb dX7_swapped_22 (by decide) (fun _ => ?_) (fun c => absurd (show (nI 0) = 0 by decide +kernel) c)
      refine lv_aload_n hx hb dX7_swapped_27 rfl (lv_at hl 1 rfl) ?_
      refine lv_iload_n hx hb dX7_swapped_28 rfl (lv_at hl 2 rfl) ?_
      refine lv_iconst (v := (nI 0)) hx hb dX7_swapped_29 (by decide +kernel) ?_
      refine lv_iconst (v := (-1)) hx hb dX7_swapped_30 (by decide +kernel) ?_
      refine lv_iconst (v := (nI 0)) hx hb dX7_swapped_31 (by decide +kernel) ?_
      refine g_callV (wr := []) (nA := 4) hC V hl.1 (x_doneByCustom l D T o jn (nI 0) (-1) (nI 0) n0 s0 im iz rw t0 u0 h0 y0 sv nn nm nl no nu n1 n2 n3 n4 n5 n6 n7 n8 n9 n10 nf1 nf2 nf3 nf4 nf5 nf6 nf7 nf8 nf9 sn sm sl so su s1 s2 s3 s4 s5 s6 s7 s8 s9 s10 sf1 sf2 sf3 sf4 sf5 sf6 sf7 sf8 sf9 sf10 (by first | assumption | omega) (by first | assumption | omega) (by first | assumption | omega)) w_536 w_538 w_s13 w_2 w_539 (by decide +kernel) rfl ⟨(Nat.le_of_ble_eq_true rfl), (Nat.le_of_ble_eq_true rfl)⟩ 0 (ci := 7) rfl rfl [0, 1, 2, 3, 4, 5, 6, 7, 8, 9, 10, 11, 12, 13, 14, 15, 16, 17, 18, 19, 20, 21] [] rfl rfl rfl rfl (by decide) (Nat.le_of_ble_eq_true rfl) dX7_swapped_32 ⟨(Nat.le_of_ble_eq_true rfl), (Nat.le_of_ble_eq_true rfl)⟩ rfl (fun r w1 H locs hQ V => ?_)
      obtain ⟨z_9, xm_10, xl_11, xo_12, xu_13, q1_14, q2_15, q3_16, q4_17, q5_18, q6_19, q7_20, q8_21, q9_22, q10_23, rfl, rfl⟩ := hQ
      have V : gW D T A s [(o, .inr (7, [.ref n0, .ref s0, .ref im, .ref iz, .ref rw, .ref t0, .ref u0, .ref h0, .ref y0, sv])), (n0, .inr (5, [.int (nI nn), .int nm, .int nl, .int no, .int nu, .ref n1, .ref n2, .ref n3, .ref n4, .ref n5, .ref n6, .ref n7, .ref n8, .ref n9, .ref n10])), (n1, .inl (T 0, 10, .inl nf1)), (n2, .inl (T 0, 10, .inl nf2)), (n3, .inl (T 0, 10, .inl nf3)), (n4, .inl (T 0, 10, .inl nf4)), (n5, .inl (T 0, 10, .inl nf5)), (n6, .inl (T 0, 10, .inl nf6)), (n7, .inl (T 0, 10, .inl nf7)), (n8, .inl (T 0, 10, .inl nf8)), (n9, .inl (T 0, 10, .inl nf9)), (s0, .inr (5, [.int (nI nn), .int xm_10, .int xl_11, .int xo_12, .int xu_13, .ref s1, .ref s2, .ref s3, .ref s4, .ref s5, .ref s6, .ref s7, .ref s8, .ref s9, .ref s10])), (s1, .inl (T 0, 10, .inl q1_14)), (s2, .inl (T 0, 10, .inl q2_15)), (s3, .inl (T 0, 10, .inl q3_16)), (s4, .inl (T 0, 10, .inl q4_17)), (s5, .inl (T 0, 10, .inl q5_18)), (s6, .inl (T 0, 10, .inl q6_19)), (s7, .inl (T 0, 10, .inl q7_20)), (s8, .inl (T 0, 10, .inl q8_21)), (s9, .inl (T 0, 10, .inl q9_22)), (s10, .inl (T 0, 10, .inl q10_23))] H locs := V
      show W p l e _ s m args below meth c H locs _ _ _ (F0 m 35 ls [.int z_9])
      refine lv_istore (lv' := [(4, .int z_9), (3, .int (nI 0)), (0, .ref o), (1, .int (nI jn)), (2, .int wh)]) hx hb dX7_swapped_35 hl (by decide) rfl (fun ls hl => ?_)
      refine lv_iload hx hb dX7_swapped_37 (lv_at hl 0 rfl) ?_
      refine lv_istore (lv' := [(5, .int z_9), (4, .int z_9), (3, .int (nI 0)), (0, .ref o), (1, .int (nI jn)), (2, .int wh)]) hx hb dX7_swapped_39 hl (by decide) rfl (fun ls hl => ?_)
      refine lv_iconst (v := (-1)) hx hb dX7_swapped_41 (by decide +kernel) ?_
      refine lv_istore (lv' := [(6, .int (-1)), (5, .int z_9), (4, .int z_9), (3, .int (nI 0)), (0, .ref o), (1, .int (nI jn)), (2, .int wh)]) hx hb dX7_swapped_42 hl (by decide) rfl (fun ls hl => ?_)
      refine lv_iconst (v := (nI 0)) hx hb dX7_swapped_44 (by decide +kernel) ?_
      refine lv_istore (lv' := [(7, .int (nI 0)), (6, .int (-1)), (5, .int z_9), (4, .int z_9), (3, .int (nI 0)), (0, .ref o), (1, .int (nI jn)), (2, .int wh)]) hx hb dX7_swapped_45 hl (by decide) rfl (fun ls hl => ?_)
      have L_24 : ∀ (fu : Nat) (ka : Nat) (x47_6 : Int32) (x47_5 : Int32) (qn : Int32) (qm : Int32) (ql_ : Int32) (qo : Int32) (qu : Int32) (e1_ : Nat → Int32) (e2_ : Nat → Int32) (e3_ : Nat → Int32) (e4_ : Nat → Int32) (e5_ : Nat → Int32) (e6_ : Nat → Int32) (e7_ : Nat → Int32) (e8_ : Nat → Int32) (e9_ : Nat → Int32) (e10_ : Nat → Int32), ka ≤ nn → nn - ka < fu → ∀ (H : Heap) (locs : List Loc) (ls : Array Slot), gW D T A s [(o, .inr (7, [.ref n0, .ref s0, .ref im, .ref iz, .ref rw, .ref t0, .ref u0, .ref h0, .ref y0, sv])), (n0, .inr (5, [.int (nI nn), .int nm, .int nl, .int no, .int nu, .ref n1, .ref n2, .ref n3, .ref n4, .ref n5, .ref n6, .ref n7, .ref n8, .ref n9, .ref n10])), (n1, .inl (T 0, 10, .inl nf1)), (n2, .inl (T 0, 10, .inl nf2)), (n3, .inl (T 0, 10, .inl nf3)), (n4, .inl (T 0, 10, .inl nf4)), (n5, .inl (T 0, 10, .inl nf5)), (n6, .inl (T 0, 10, .inl nf6)), (n7, .inl (T 0, 10, .inl nf7)), (n8, .inl (T 0, 10, .inl nf8)), (n9, .inl (T 0, 10, .inl nf9)), (s0, .inr (5, [.int qn, .int qm, .int ql_, .int qo, .int qu, .ref s1, .ref s2, .ref s3, .ref s4, .ref s5, .ref s6, .ref s7, .ref s8, .ref s9, .ref s10])), (s1, .inl (T 0, 10, .inl e1_)), (s2, .inl (T 0, 10, .inl e2_)), (s3, .inl (T 0, 10, .inl e3_)), (s4, .inl (T 0, 10, .inl e4_)), (s5, .inl (T 0, 10, .inl e5_)), (s6, .inl (T 0, 10, .inl e6_)), (s7, .inl (T 0, 10, .inl e7_)), (s8, .inl (T 0, 10, .inl e8_)), (s9, .inl (T 0, 10, .inl e9_)), (s10, .inl (T 0, 10, .inl e10_))] H locs → lv_has ls 10 [(7, .int (nI ka)), (6, .int x47_6), (5, .int x47_5), (4, .int z_9), (3, .int (nI 0)), (0, .ref o), (1, .int (nI jn)), (2, .int wh)] → W p l e (rmD 6 0 0) s m args below meth c H locs 0 0 (MQ below (gQ D A (q_x_swapped T o n wh n0 s0 im iz rw t0 u0 h0 y0 sv nn nm nl no nu n1 n2 n3 n4 n5 n6 n7 n8 n9 n10 nf1 nf2 nf3 nf4 nf5 nf6 nf7 nf8 nf9 sn sm sl so su s1 s2 s3 s4 s5 s6 s7 s8 s9 s10 sf1 sf2 sf3 sf4 sf5 sf6 sf7 sf8 sf9 sf10)) args s 0 0 A) (F0 m 47 ls []) := by
        intro fu_47
        induction fu_47 with
        | zero => intro ka x47_6 x47_5 qn qm ql_ qo qu e1_ e2_ e3_ e4_ e5_ e6_ e7_ e8_ e9_ e10_ hka hmu; exact absurd hmu (Nat.not_lt_zero _)
        | succ fu_47 ih_47 =>
          intro ka x47_6 x47_5 qn qm ql_ qo qu e1_ e2_ e3_ e4_ e5_ e6_ e7_ e8_ e9_ e10_ hka hmu_47 H locs ls V hl
          refine lv_iload hx hb dX7_swapped_47 (lv_at hl 0 rfl) ?_
          refine lv_aload_n hx hb dX7_swapped_49 rfl (lv_at hl 5 rfl) ?_
          refine g_get hC V (ci := 7) uwX7 0 rfl rfl 0 (by decide) w_249 rfl rfl dX7_swapped_50 ?_
          refine g_get hC V (ci := 5) uwX5 1 rfl rfl 0 (by decide) w_38 rfl rfl dX7_swapped_53 ?_
          refine lv_icmp_ge (tgt := 121) hx hb dX7_swapped_56 (by decide) (fun c_25 => ?_) (fun c_25 => ?_)
          · skip
            have c_25 := b_le (by omega) (by omega) c_25
            refine lv_iload_n hx hb dX7_swapped_121 rfl (lv_at hl 7 rfl) ?_
            refine lv_if_ne (tgt := 133) hx hb dX7_swapped_122 (by decide) (fun c_26 => ?_) (fun c_26 => ?_)
            · skip
              refine lv_iload hx hb dX7_swapped_133 (lv_at hl 1 rfl) ?_
              exact g_iret (Qr := (q_x_swapped T o n wh n0 s0 im iz rw t0 u0 h0 y0 sv nn nm nl no nu n1 n2 n3 n4 n5 n6 n7 n8 n9 n10 nf1 nf2 nf3 nf4 nf5 nf6 nf7 nf8 nf9 sn sm sl so su s1 s2 s3 s4 s5 s6 s7 s8 s9 s10 sf1 sf2 sf3 sf4 sf5 sf6 sf7 sf8 sf9 sf10)) hC V ⟨(Nat.le_of_ble_eq_true rfl), (Nat.le_of_ble_eq_true rfl)⟩ ⟨x47_6, qn, qm, ql_, qo, qu, e1_, e2_, e3_, e4_, e5_, e6_, e7_, e8_, e9_, e10_, rfl, rfl⟩ dX7_swapped_135
            · skip
              refine lv_iload hx hb dX7_swapped_125 (lv_at hl 2 rfl) ?_
              refine lv_iload hx hb dX7_swapped_127 (lv_at hl 3 rfl) ?_
              refine lv_isub hx hb dX7_swapped_129 ?_
              refine lv_goto (tgt := 135) hx hb dX7_swapped_130 (by decide) ?_
              exact g_iret (Qr := (q_x_swapped T o n wh n0 s0 im iz rw t0 u0 h0 y0 sv nn nm nl no nu n1 n2 n3 n4 n5 n6 n7 n8 n9 n10 nf1 nf2 nf3 nf4 nf5 nf6 nf7 nf8 nf9 sn sm sl so su s1 s2 s3 s4 s5 s6 s7 s8 s9 s10 sf1 sf2 sf3 sf4 sf5 sf6 sf7 sf8 sf9 sf10)) hC V ⟨(Nat.le_of_ble_eq_true rfl), (Nat.le_of_ble_eq_true rfl)⟩ ⟨(x47_5 - z_9), qn, qm, ql_, qo, qu, e1_, e2_, e3_, e4_, e5_, e6_, e7_, e8_, e9_, e10_, rfl, rfl⟩ dX7_swapped_135
          · skip
            have c_25 := b_nle (by omega) (by omega) c_25
            refine lv_iload hx hb dX7_swapped_59 (lv_at hl 0 rfl) ?_
            refine lv_iconst (v := (nI 1)) hx hb dX7_swapped_61 (by decide +kernel) ?_
            refine lv_iadd hx hb dX7_swapped_62 ?_
            refine g_vi (y := (nI (ka + 1))) (nI_add _ _) ?_
            refine lv_istore (lv' := [(8, .int (nI (ka + 1))), (7, .int (nI ka)), (6, .int x47_6), (5, .int x47_5), (4, .int z_9), (3, .int (nI 0)), (0, .ref o), (1, .int (nI jn)), (2, .int wh)]) hx hb dX7_swapped_63 hl (by decide) rfl (fun ls hl => ?_)
            have L_27 : ∀ (fu : Nat) (kb : Nat) (x65_6 : Int32) (x65_5 : Int32) (qn2 : Int32) (qm2 : Int32) (ql2 : Int32) (qo2 : Int32) (qu2 : Int32) (f1_ : Nat → Int32) (f2_ : Nat → Int32) (f3_ : Nat → Int32) (f4_ : Nat → Int32) (f5_ : Nat → Int32) (f6_ : Nat → Int32) (f7_ : Nat → Int32) (f8_ : Nat → Int32) (f9_ : Nat → Int32) (f10_ : Nat → Int32), kb ≤ nn → nn - kb < fu → ∀ (H : Heap) (locs : List Loc) (ls : Array Slot), gW D T A s [(o, .inr (7, [.ref n0, .ref s0, .ref im, .ref iz, .ref rw, .ref t0, .ref u0, .ref h0, .ref y0, sv])), (n0, .inr (5, [.int (nI nn), .int nm, .int nl, .int no, .int nu, .ref n1, .ref n2, .ref n3, .ref n4, .ref n5, .ref n6, .ref n7, .ref n8, .ref n9, .ref n10])), (n1, .inl (T 0, 10, .inl nf1)), (n2, .inl (T 0, 10, .inl nf2)), (n3, .inl (T 0, 10, .inl nf3)), (n4, .inl (T 0, 10, .inl nf4)), (n5, .inl (T 0, 10, .inl nf5)), (n6, .inl (T 0, 10, .inl nf6)), (n7, .inl (T 0, 10, .inl nf7)), (n8, .inl (T 0, 10, .inl nf8)), (n9, .inl (T 0, 10, .inl nf9)), (s0, .inr (5, [.int qn2, .int qm2, .int ql2, .int qo2, .int qu2, .ref s1, .ref s2, .ref s3, .ref s4, .ref s5, .ref s6, .ref s7, .ref s8, .ref s9, .ref s10])), (s1, .inl (T 0, 10, .inl f1_)), (s2, .inl (T 0, 10, .inl f2_)), (s3, .inl (T 0, 10, .inl f3_)), (s4, .inl (T 0, 10, .inl f4_)), (s5, .inl (T 0, 10, .inl f5_)), (s6, .inl (T 0, 10, .inl f6_)), (s7, .inl (T 0, 10, .inl f7_)), (s8, .inl (T 0, 10, .inl f8_)), (s9, .inl (T 0, 10, .inl f9_)), (s10, .inl (T 0, 10, .inl f10_))] H locs → lv_has ls 10 [(8, .int (nI kb)), (7, .int (nI ka)), (6, .int x65_6), (5, .int x65_5), (4, .int z_9), (3, .int (nI 0)), (0, .ref o), (1, .int (nI jn)), (2, .int wh)] → W p l e (rmD 6 0 0) s m args below meth c H locs 0 0 (MQ below (gQ D A (q_x_swapped T o n wh n0 s0 im iz rw t0 u0 h0 y0 sv nn nm nl no nu n1 n2 n3 n4 n5 n6 n7 n8 n9 n10 nf1 nf2 nf3 nf4 nf5 nf6 nf7 nf8 nf9 sn sm sl so su s1 s2 s3 s4 s5 s6 s7 s8 s9 s10 sf1 sf2 sf3 sf4 sf5 sf6 sf7 sf8 sf9 sf10)) args s 0 0 A) (F0 m 65 ls []) := by
              intro fu_65
              induction fu_65 with
              | zero => intro kb x65_6 x65_5 qn2 qm2 ql2 qo2 qu2 f1_ f2_ f3_ f4_ f5_ f6_ f7_ f8_ f9_ f10_ hkb hmu; exact absurd hmu (Nat.not_lt_zero _)
              | succ fu_65 ih_65 =>
                intro kb x65_6 x65_5 qn2 qm2 ql2 qo2 qu2 f1_ f2_ f3_ f4_ f5_ f6_ f7_ f8_ f9_ f10_ hkb hmu_65 H locs ls V hl
                refine lv_iload hx hb dX7_swapped_65 (lv_at hl 0 rfl) ?_
                refine lv_aload_n hx hb dX7_swapped_67 rfl (lv_at hl 6 rfl) ?_
                refine g_get hC V (ci := 7) uwX7 0 rfl rfl 0 (by decide) w_249 rfl rfl dX7_swapped_68 ?_
                refine g_get hC V (ci := 5) uwX5 1 rfl rfl 0 (by decide) w_38 rfl rfl dX7_swapped_71 ?_
                refine lv_icmp_ge (tgt := 115) hx hb dX7_swapped_74 (by decide) (fun c_28 => ?_) (fun c_28 => ?_)
                · skip
                  have c_28 := b_le (by omega) (by omega) c_28
                  refine lv_iinc (v := (nI (ka + 1))) (lv' := [(7, .int (nI (ka + 1))), (8, .int (nI kb)), (6, .int x65_6), (5, .int x65_5), (4, .int z_9), (3, .int (nI 0)), (0, .ref o), (1, .int (nI jn)), (2, .int wh)]) hx hb dX7_swapped_115 hl (k := 1) rfl (nI_1 _) (by decide) rfl (fun ls hl => ?_)
                  refine lv_goto (tgt := 47) hx hb dX7_swapped_118 (by decide) ?_
                  exact ih_47 (ka + 1) x65_6 x65_5 qn2 qm2 ql2 qo2 qu2 f1_ f2_ f3_ f4_ f5_ f6_ f7_ f8_ f9_ f10_ (by omega) (by omega) _ _ _ V (lv_sub hl [0, 2, 3, 4, 5, 6, 7, 8] rfl)
                · skip
                  have c_28 := b_nle (by omega) (by omega) c_28
                  refine lv_aload_n hx hb dX7_swapped_77 rfl (lv_at hl 6 rfl) ?_
                  refine lv_iload_n hx hb dX7_swapped_78 rfl (lv_at hl 7 rfl) ?_
                  refine lv_iload hx hb dX7_swapped_79 (lv_at hl 1 rfl) ?_
                  refine lv_iload hx hb dX7_swapped_81 (lv_at hl 0 rfl) ?_
                  refine g_callV (wr := []) (nA := 3) hC V hl.1 (x_doneBySwapped l D T o jn ka kb n0 s0 im iz rw t0 u0 h0 y0 sv nn nm nl no nu n1 n2 n3 n4 n5 n6 n7 n8 n9 n10 nf1 nf2 nf3 nf4 nf5 nf6 nf7 nf8 nf9 qn2 qm2 ql2 qo2 qu2 s1 s2 s3 s4 s5 s6 s7 s8 s9 s10 f1_ f2_ f3_ f4_ f5_ f6_ f7_ f8_ f9_ f10_ (by first | assumption | omega) (by first | assumption | omega) (by first | assumption | omega) (by first | assumption | omega) (by first | assumption | omega)) w_837 w_839 w_s34 w_2 w_840 (by decide +kernel) rfl ⟨(Nat.le_of_ble_eq_true rfl), (Nat.le_of_ble_eq_true rfl)⟩ 0 (ci := 7) rfl rfl [0, 1, 2, 3, 4, 5, 6, 7, 8, 9, 10, 11, 12, 13, 14, 15, 16, 17, 18, 19, 20, 21] [] rfl rfl rfl rfl (by decide) (Nat.le_of_ble_eq_true rfl) dX7_swapped_83 ⟨(Nat.le_of_ble_eq_true rfl), (Nat.le_of_ble_eq_true rfl)⟩ rfl (fun r w1 H locs hQ V => ?_)
                  obtain ⟨z_29, xm_30, xl_31, xo_32, xu_33, q1_34, q2_35, q3_36, q4_37, q5_38, q6_39, q7_40, q8_41, q9_42, q10_43, rfl, rfl⟩ := hQ
                  have V : gW D T A s [(o, .inr (7, [.ref n0, .ref s0, .ref im, .ref iz, .ref rw, .ref t0, .ref u0, .ref h0, .ref y0, sv])), (n0, .inr (5, [.int (nI nn), .int nm, .int nl, .int no, .int nu, .ref n1, .ref n2, .ref n3, .ref n4, .ref n5, .ref n6, .ref n7, .ref n8, .ref n9, .ref n10])), (n1, .inl (T 0, 10, .inl nf1)), (n2, .inl (T 0, 10, .inl nf2)), (n3, .inl (T 0, 10, .inl nf3)), (n4, .inl (T 0, 10, .inl nf4)), (n5, .inl (T 0, 10, .inl nf5)), (n6, .inl (T 0, 10, .inl nf6)), (n7, .inl (T 0, 10, .inl nf7)), (n8, .inl (T 0, 10, .inl nf8)), (n9, .inl (T 0, 10, .inl nf9)), (s0, .inr (5, [.int (nI nn), .int xm_30, .int xl_31, .int xo_32, .int xu_33, .ref s1, .ref s2, .ref s3, .ref s4, .ref s5, .ref s6, .ref s7, .ref s8, .ref s9, .ref s10])), (s1, .inl (T 0, 10, .inl q1_34)), (s2, .inl (T 0, 10, .inl q2_35)), (s3, .inl (T 0, 10, .inl q3_36)), (s4, .inl (T 0, 10, .inl q4_37)), (s5, .inl (T 0, 10, .inl q5_38)), (s6, .inl (T 0, 10, .inl q6_39)), (s7, .inl (T 0, 10, .inl q7_40)), (s8, .inl (T 0, 10, .inl q8_41)), (s9, .inl (T 0, 10, .inl q9_42)), (s10, .inl (T 0, 10, .inl q10_43))] H locs := V
                  show W p l e _ s m args below meth c H locs _ _ _ (F0 m 86 ls [.int z_29])
                  refine lv_istore (lv' := [(9, .int z_29), (8, .int (nI kb)), (7, .int (nI ka)), (6, .int x65_6), (5, .int x65_5), (4, .int z_9), (3, .int (nI 0)), (0, .ref o), (1, .int (nI jn)), (2, .int wh)]) hx hb dX7_swapped_86 hl (by decide) rfl (fun ls hl => ?_)
                  refine lv_iload hx hb dX7_swapped_88 (lv_at hl 0 rfl) ?_
                  refine lv_iload hx hb dX7_swapped_90 (lv_at hl 4 rfl) ?_
                  refine lv_icmp_le (tgt := 109) hx hb dX7_swapped_92 (by decide) (fun c_44 => ?_) (fun c_44 => ?_)
                  · skip
                    refine lv_iinc (v := (nI (kb + 1))) (lv' := [(8, .int (nI (kb + 1))), (9, .int z_29), (7, .int (nI ka)), (6, .int x65_6), (5, .int x65_5), (4, .int z_9), (3, .int (nI 0)), (0, .ref o), (1, .int (nI jn)), (2, .int wh)]) hx hb dX7_swapped_109 hl (k := 1) rfl (nI_1 _) (by decide) rfl (fun ls hl => ?_)
                    refine lv_goto (tgt := 65) hx hb dX7_swapped_112 (by decide) ?_
                    exact ih_65 (kb + 1) x65_6 x65_5 (nI nn) xm_30 xl_31 xo_32 xu_33 q1_34 q2_35 q3_36 q4_37 q5_38 q6_39 q7_40 q8_41 q9_42 q10_43 (by omega) (by omega) _ _ _ V (lv_sub hl [0, 2, 3, 4, 5, 6, 7, 8, 9] rfl)
                  · skip
                    refine lv_iload hx hb dX7_swapped_95 (lv_at hl 0 rfl) ?_
                    refine lv_istore (lv' := [(5, .int z_29), (9, .int z_29), (8, .int (nI kb)), (7, .int (nI ka)), (6, .int x65_6), (4, .int z_9), (3, .int (nI 0)), (0, .ref o), (1, .int (nI jn)), (2, .int wh)]) hx hb dX7_swapped_97 hl (by decide) rfl (fun ls hl => ?_)
                    refine lv_bipush (v := (nI 10)) hx hb dX7_swapped_99 (by decide +kernel) ?_
                    refine lv_iload hx hb dX7_swapped_101 (lv_at hl 3 rfl) ?_
                    refine lv_imul hx hb dX7_swapped_103 ?_
                    refine g_vi (y := (nI (10 * ka))) (pk_mul _ _) ?_
                    refine lv_iload hx hb dX7_swapped_104 (lv_at hl 2 rfl) ?_
                    refine lv_iadd hx hb dX7_swapped_106 ?_
                    refine g_vi (y := (nI ((10 * ka) + kb))) (nI_add _ _) ?_
                    refine lv_istore (lv' := [(6, .int (nI ((10 * ka) + kb))), (5, .int z_29), (9, .int z_29), (8, .int (nI kb)), (7, .int (nI ka)), (4, .int z_9), (3, .int (nI 0)), (0, .ref o), (1, .int (nI jn)), (2, .int wh)]) hx hb dX7_swapped_107 hl (by decide) rfl (fun ls hl => ?_)
                    refine lv_iinc (v := (nI (kb + 1))) (lv' := [(8, .int (nI (kb + 1))), (6, .int (nI ((10 * ka) + kb))), (5, .int z_29), (9, .int z_29), (7, .int (nI ka)), (4, .int z_9), (3, .int (nI 0)), (0, .ref o), (1, .int (nI jn)), (2, .int wh)]) hx hb dX7_swapped_109 hl (k := 3) rfl (nI_1 _) (by decide) rfl (fun ls hl => ?_)
                    refine lv_goto (tgt := 65) hx hb dX7_swapped_112 (by decide) ?_
                    exact ih_65 (kb + 1) (nI ((10 * ka) + kb)) z_29 (nI nn) xm_30 xl_31 xo_32 xu_33 q1_34 q2_35 q3_36 q4_37 q5_38 q6_39 q7_40 q8_41 q9_42 q10_43 (by omega) (by omega) _ _ _ V (lv_sub hl [0, 4, 1, 2, 5, 6, 7, 8, 9] rfl)
            exact L_27 _ (ka + 1) x47_6 x47_5 qn qm ql_ qo qu e1_ e2_ e3_ e4_ e5_ e6_ e7_ e8_ e9_ e10_ (by omega) (Nat.lt_succ_self _) _ _ _ V (lv_sub hl [0, 1, 2, 3, 4, 5, 6, 7, 8] rfl)
      exact L_24 _ 0 (-1) z_9 (nI nn) xm_10 xl_11 xo_12 xu_13 q1_14 q2_15 q3_16 q4_17 q5_18 q6_19 q7_20 q8_21 q9_22 q10_23 (by omega) (Nat.lt_succ_self _) _ _ _ V (lv_sub hl [0, 1, 2, 3, 4, 5, 6, 7] rfl)
    · have V : gW D T A s [(o, .inr (7, [.ref n0, .ref s0, .ref im, .ref iz, .ref rw, .ref t0, .ref u0, .ref h0, .ref y0, sv])), (n0, .inr (5, [.int (nI nn), .int nm, .int nl, .int no, .int nu, .ref n1, .ref n2, .ref n3, .ref n4, .ref n5, .ref n6, .ref n7, .ref n8, .ref n9, .ref n10])), (n1, .inl (T 0, 10, .inl nf1)), (n2, .inl (T 0, 10, .inl nf2)), (n3, .inl (T 0, 10, .inl nf3)), (n4, .inl (T 0, 10, .inl nf4)), (n5, .inl (T 0, 10, .inl nf5)), (n6, .inl (T 0, 10, .inl nf6)), (n7, .inl (T 0, 10, .inl nf7)), (n8, .inl (T 0, 10, .inl nf8)), (n9, .inl (T 0, 10, .inl nf9)), (s0, .inr (5, [.int sn, .int sm, .int sl, .int so, .int su, .ref s1, .ref s2, .ref s3, .ref s4, .ref s5, .ref s6, .ref s7, .ref s8, .ref s9, .ref s10])), (s1, .inl (T 0, 10, .inl sf1)), (s2, .inl (T 0, 10, .inl sf2)), (s3, .inl (T 0, 10, .inl sf3)), (s4, .inl (T 0, 10, .inl sf4)), (s5, .inl (T 0, 10, .inl sf5)), (s6, .inl (T 0, 10, .inl sf6)), (s7, .inl (T 0, 10, .inl sf7)), (s8, .inl (T 0, 10, .inl sf8)), (s9, .inl (T 0, 10, .inl sf9)), (s10, .inl (T 0, 10, .inl sf10))] H locs := V _ [0, 0] rfl rfl rfl (by decide +kernel) rfl
      show W p l e _ s m args below meth c H locs _ _ _ (F0 m 20 ls [.int z_7])
      refine lv_istore_n (lv' := [(3, .int z_7), (0, .ref o), (1, .int n), (2, .int wh)]) hx hb dX7_swapped_20 rfl hl (by decide) rfl (fun ls hl => ?_)
      refine lv_iload_n hx hb dX7_swapped_21 rfl (lv_at hl 0 rfl) ?_
      refine lv_if_eq (tgt := 27) hx hb dX7_swapped_22 (by decide) (fun c_45 => ?_) (fun c_45 => ?_)
      · skip
        exact (absurd c_45 (by assumption) : False).elim
      · skip
        refine lv_iload_n hx hb dX7_swapped_25 rfl (lv_at hl 0 rfl) ?_
        exact g_iret (Qr := (q_x_swapped T o n wh n0 s0 im iz rw t0 u0 h0 y0 sv nn nm nl no nu n1 n2 n3 n4 n5 n6 n7 n8 n9 n10 nf1 nf2 nf3 nf4 nf5 nf6 nf7 nf8 nf9 sn sm sl so su s1 s2 s3 s4 s5 s6 s7 s8 s9 s10 sf1 sf2 sf3 sf4 sf5 sf6 sf7 sf8 sf9 sf10)) hC V ⟨(Nat.le_of_ble_eq_true rfl), (Nat.le_of_ble_eq_true rfl)⟩ ⟨z_7, sn, sm, sl, so, su, sf1, sf2, sf3, sf4, sf5, sf6, sf7, sf8, sf9, sf10, rfl, rfl⟩ dX7_swapped_26
  · have V : gW D T A s [(o, .inr (7, [.ref n0, .ref s0, .ref im, .ref iz, .ref rw, .ref t0, .ref u0, .ref h0, .ref y0, sv])), (n0, .inr (5, [.int (nI nn), .int nm, .int nl, .int no, .int nu, .ref n1, .ref n2, .ref n3, .ref n4, .ref n5, .ref n6, .ref n7, .ref n8, .ref n9, .ref n10])), (n1, .inl (T 0, 10, .inl nf1)), (n2, .inl (T 0, 10, .inl nf2)), (n3, .inl (T 0, 10, .inl nf3)), (n4, .inl (T 0, 10, .inl nf4)), (n5, .inl (T 0, 10, .inl nf5)), (n6, .inl (T 0, 10, .inl nf6)), (n7, .inl (T 0, 10, .inl nf7)), (n8, .inl (T 0, 10, .inl nf8)), (n9, .inl (T 0, 10, .inl nf9)), (s0, .inr (5, [.int sn, .int sm, .int sl, .int so, .int su, .ref s1, .ref s2, .ref s3, .ref s4, .ref s5, .ref s6, .ref s7, .ref s8, .ref s9, .ref s10])), (s1, .inl (T 0, 10, .inl sf1)), (s2, .inl (T 0, 10, .inl sf2)), (s3, .inl (T 0, 10, .inl sf3)), (s4, .inl (T 0, 10, .inl sf4)), (s5, .inl (T 0, 10, .inl sf5)), (s6, .inl (T 0, 10, .inl sf6)), (s7, .inl (T 0, 10, .inl sf7)), (s8, .inl (T 0, 10, .inl sf8)), (s9, .inl (T 0, 10, .inl sf9)), (s10, .inl (T 0, 10, .inl sf10))] H locs := V _ [] rfl rfl rfl (by decide +kernel) rfl
    show W p l e _ s m args below meth c H locs _ _ _ (F0 m 6 ls [.int (nI 0)])
    refine lv_if_ne (tgt := 12) hx hb dX7_swapped_6 (by decide) (fun c => absurd (show (nI 0) = 0 by decide +kernel) c) (fun _ => ?_)
    refine lv_bipush (v := (-2)) hx hb dX7_swapped_9 (by decide +kernel) ?_
    exact g_iret (Qr := (q_x_swapped T o n wh n0 s0 im iz rw t0 u0 h0 y0 sv nn nm nl no nu n1 n2 n3 n4 n5 n6 n7 n8 n9 n10 nf1 nf2 nf3 nf4 nf5 nf6 nf7 nf8 nf9 sn sm sl so su s1 s2 s3 s4 s5 s6 s7 s8 s9 s10 sf1 sf2 sf3 sf4 sf5 sf6 sf7 sf8 sf9 sf10)) hC V ⟨(Nat.le_of_ble_eq_true rfl), (Nat.le_of_ble_eq_true rfl)⟩ ⟨(-2), sn, sm, sl, so, su, sf1, sf2, sf3, sf4, sf5, sf6, sf7, sf8, sf9, sf10, rfl, rfl⟩ dX7_swapped_11

def q_x_when (T : Nat → ClassId) (o : Nat) (i : Int32) (n0 : Nat) (s0 : Nat) (im : Nat) (iz : Nat) (rw : Nat) (t0 : Nat) (u0 : Nat) (h0 : Nat) (y0 : Nat) (sv : Value) (nn : Nat) (nm : Int32) (nl : Int32) (no : Int32) (nu : Int32) (n1 : Nat) (n2 : Nat) (n3 : Nat) (n4 : Nat) (n5 : Nat) (n6 : Nat) (n7 : Nat) (n8 : Nat) (n9 : Nat) (n10 : Nat) (nf1 : Nat → Int32) (nf2 : Nat → Int32) (nf3 : Nat → Int32) (nf4 : Nat → Int32) (nf5 : Nat → Int32) (nf6 : Nat → Int32) (nf7 : Nat → Int32) (nf8 : Nat → Int32) (nf9 : Nat → Int32) (sn : Int32) (sm : Int32) (sl : Int32) (so : Int32) (su : Int32) (s1 : Nat) (s2 : Nat) (s3 : Nat) (s4 : Nat) (s5 : Nat) (s6 : Nat) (s7 : Nat) (s8 : Nat) (s9 : Nat) (s10 : Nat) (sf1 : Nat → Int32) (sf2 : Nat → Int32) (sf3 : Nat → Int32) (sf4 : Nat → Int32) (sf5 : Nat → Int32) (sf6 : Nat → Int32) (sf7 : Nat → Int32) (sf8 : Nat → Int32) (sf9 : Nat → Int32) (sf10 : Nat → Int32) : Option Value → va_W → Prop := fun rr ww => (∃ (z : Int32) (xn : Int32) (xm : Int32) (xl : Int32) (xo : Int32) (xu : Int32) (q1 : Nat → Int32) (q2 : Nat → Int32) (q3 : Nat → Int32) (q4 : Nat → Int32) (q5 : Nat → Int32) (q6 : Nat → Int32) (q7 : Nat → Int32) (q8 : Nat → Int32) (q9 : Nat → Int32) (q10 : Nat → Int32), rr = some (.int z) ∧ ww = [(o, .inr (7, [.ref n0, .ref s0, .ref im, .ref iz, .ref rw, .ref t0, .ref u0, .ref h0, .ref y0, sv])), (n0, .inr (5, [.int (nI nn), .int nm, .int nl, .int no, .int nu, .ref n1, .ref n2, .ref n3, .ref n4, .ref n5, .ref n6, .ref n7, .ref n8, .ref n9, .ref n10])), (n1, .inl (T 0, 10, .inl nf1)), (n2, .inl (T 0, 10, .inl nf2)), (n3, .inl (T 0, 10, .inl nf3)), (n4, .inl (T 0, 10, .inl nf4)), (n5, .inl (T 0, 10, .inl nf5)), (n6, .inl (T 0, 10, .inl nf6)), (n7, .inl (T 0, 10, .inl nf7)), (n8, .inl (T 0, 10, .inl nf8)), (n9, .inl (T 0, 10, .inl nf9)), (s0, .inr (5, [.int xn, .int xm, .int xl, .int xo, .int xu, .ref s1, .ref s2, .ref s3, .ref s4, .ref s5, .ref s6, .ref s7, .ref s8, .ref s9, .ref s10])), (s1, .inl (T 0, 10, .inl q1)), (s2, .inl (T 0, 10, .inl q2)), (s3, .inl (T 0, 10, .inl q3)), (s4, .inl (T 0, 10, .inl q4)), (s5, .inl (T 0, 10, .inl q5)), (s6, .inl (T 0, 10, .inl q6)), (s7, .inl (T 0, 10, .inl q7)), (s8, .inl (T 0, 10, .inl q8)), (s9, .inl (T 0, 10, .inl q9)), (s10, .inl (T 0, 10, .inl q10))])
set_option maxHeartbeats 4000000 in
set_option maxRecDepth 100000 in
theorem x_when (l : Launch) (D : va_G) (T : Nat → ClassId) (o : Nat) (i : Int32) (n0 : Nat) (s0 : Nat) (im : Nat) (iz : Nat) (rw : Nat) (t0 : Nat) (u0 : Nat) (h0 : Nat) (y0 : Nat) (sv : Value) (nn : Nat) (nm : Int32) (nl : Int32) (no : Int32) (nu : Int32) (n1 : Nat) (n2 : Nat) (n3 : Nat) (n4 : Nat) (n5 : Nat) (n6 : Nat) (n7 : Nat) (n8 : Nat) (n9 : Nat) (n10 : Nat) (nf1 : Nat → Int32) (nf2 : Nat → Int32) (nf3 : Nat → Int32) (nf4 : Nat → Int32) (nf5 : Nat → Int32) (nf6 : Nat → Int32) (nf7 : Nat → Int32) (nf8 : Nat → Int32) (nf9 : Nat → Int32) (sn : Int32) (sm : Int32) (sl : Int32) (so : Int32) (su : Int32) (s1 : Nat) (s2 : Nat) (s3 : Nat) (s4 : Nat) (s5 : Nat) (s6 : Nat) (s7 : Nat) (s8 : Nat) (s9 : Nat) (s10 : Nat) (sf1 : Nat → Int32) (sf2 : Nat → Int32) (sf3 : Nat → Int32) (sf4 : Nat → Int32) (sf5 : Nat → Int32) (sf6 : Nat → Int32) (sf7 : Nat → Int32) (sf8 : Nat → Int32) (sf9 : Nat → Int32) (sf10 : Nat → Int32) (h_n : nn ≤ 10) (h_t : ∀ i, i < nn → bd (nf9 i) nn) : Ct l yX7_when cX7_when 3 (some .int) 5 0 0 D T [.ref o, .int i] [(o, .inr (7, [.ref n0, .ref s0, .ref im, .ref iz, .ref rw, .ref t0, .ref u0, .ref h0, .ref y0, sv])), (n0, .inr (5, [.int (nI nn), .int nm, .int nl, .int no, .int nu, .ref n1, .ref n2, .ref n3, .ref n4, .ref n5, .ref n6, .ref n7, .ref n8, .ref n9, .ref n10])), (n1, .inl (T 0, 10, .inl nf1)), (n2, .inl (T 0, 10, .inl nf2)), (n3, .inl (T 0, 10, .inl nf3)), (n4, .inl (T 0, 10, .inl nf4)), (n5, .inl (T 0, 10, .inl nf5)), (n6, .inl (T 0, 10, .inl nf6)), (n7, .inl (T 0, 10, .inl nf7)), (n8, .inl (T 0, 10, .inl nf8)), (n9, .inl (T 0, 10, .inl nf9)), (s0, .inr (5, [.int sn, .int sm, .int sl, .int so, .int su, .ref s1, .ref s2, .ref s3, .ref s4, .ref s5, .ref s6, .ref s7, .ref s8, .ref s9, .ref s10])), (s1, .inl (T 0, 10, .inl sf1)), (s2, .inl (T 0, 10, .inl sf2)), (s3, .inl (T 0, 10, .inl sf3)), (s4, .inl (T 0, 10, .inl sf4)), (s5, .inl (T 0, 10, .inl sf5)), (s6, .inl (T 0, 10, .inl sf6)), (s7, .inl (T 0, 10, .inl sf7)), (s8, .inl (T 0, 10, .inl sf8)), (s9, .inl (T 0, 10, .inl sf9)), (s10, .inl (T 0, 10, .inl sf10))] (q_x_when T o i n0 s0 im iz rw t0 u0 h0 y0 sv nn nm nl no nu n1 n2 n3 n4 n5 n6 n7 n8 n9 n10 nf1 nf2 nf3 nf4 nf5 nf6 nf7 nf8 nf9 sn sm sl so su s1 s2 s3 s4 s5 s6 s7 s8 s9 s10 sf1 sf2 sf3 sf4 sf5 sf6 sf7 sf8 sf9 sf10) := by
  refine Ct.of (cc := cX7_when) (maxL := 3) (ret := (some .int)) (by decide) (Nat.le_of_ble_eq_true rfl) ?_
  intro p e s m args below meth c A ls hC hnm V hl
  obtain ⟨hx, hb, hr, hml, hown, hts, hlocks⟩ := id hC
  generalize hH : s.heap = H at V ⊢
  clear hH
  have hl : lv_has ls 3 [(0, .ref o), (1, .int i)] := hl
  generalize hlo : ([] : List Loc) = locs at V ⊢
  clear hlo
  refine lv_aload_n hx hb dX7_when_0 rfl (lv_at hl 0 rfl) ?_
  refine g_get hC V (ci := 7) uwX7 0 rfl rfl 0 (by decide) w_249 rfl rfl dX7_when_1 ?_
  refine lv_iload_n hx hb dX7_when_4 rfl (lv_at hl 1 rfl) ?_
  refine g_callVU (nA := 1) hC V hl.1 (s_isSmith l D T n0 i nn nm nl no nu n1 n2 n3 n4 n5 n6 n7 n8 n9 n10 (by first | assumption | omega)) w_425 w_426 w_427 w_3 w_428 (by decide +kernel) rfl ⟨(Nat.le_of_ble_eq_true rfl), (Nat.le_of_ble_eq_true rfl)⟩ 1 (ci := 5) rfl rfl [1] rfl rfl (Nat.le_of_ble_eq_true rfl) dX7_when_5 ⟨(Nat.le_of_ble_eq_true rfl), (Nat.le_of_ble_eq_true rfl)⟩ rfl (fun r w1 H locs hQ V => ?_)
  rcases hQ with ⟨j_1, rfl, rfl, f_2, f_3⟩ | ⟨rfl, rfl, f_4⟩
  · have V : gW D T A s [(o, .inr (7, [.ref n0, .ref s0, .ref im, .ref iz, .ref rw, .ref t0, .ref u0, .ref h0, .ref y0, sv])), (n0, .inr (5, [.int (nI nn), .int nm, .int nl, .int no, .int nu, .ref n1, .ref n2, .ref n3, .ref n4, .ref n5, .ref n6, .ref n7, .ref n8, .ref n9, .ref n10])), (n1, .inl (T 0, 10, .inl nf1)), (n2, .inl (T 0, 10, .inl nf2)), (n3, .inl (T 0, 10, .inl nf3)), (n4, .inl (T 0, 10, .inl nf4)), (n5, .inl (T 0, 10, .inl nf5)), (n6, .inl (T 0, 10, .inl nf6)), (n7, .inl (T 0, 10, .inl nf7)), (n8, .inl (T 0, 10, .inl nf8)), (n9, .inl (T 0, 10, .inl nf9)), (s0, .inr (5, [.int sn, .int sm, .int sl, .int so, .int su, .ref s1, .ref s2, .ref s3, .ref s4, .ref s5, .ref s6, .ref s7, .ref s8, .ref s9, .ref s10])), (s1, .inl (T 0, 10, .inl sf1)), (s2, .inl (T 0, 10, .inl sf2)), (s3, .inl (T 0, 10, .inl sf3)), (s4, .inl (T 0, 10, .inl sf4)), (s5, .inl (T 0, 10, .inl sf5)), (s6, .inl (T 0, 10, .inl sf6)), (s7, .inl (T 0, 10, .inl sf7)), (s8, .inl (T 0, 10, .inl sf8)), (s9, .inl (T 0, 10, .inl sf9)), (s10, .inl (T 0, 10, .inl sf10))] H locs := V _ [1] rfl rfl rfl (by decide +kernel) rfl
    show W p l e _ s m args below meth c H locs _ _ _ (F0 m 8 ls [.int (nI 1)])
    rw [f_2] at hl
    refine lv_if_ne (tgt := 14) hx hb dX7_when_8 (by decide) (fun _ => ?_) (fun c => absurd (show (nI 1) = 0 from c) (by decide +kernel))
    refine lv_aload_n hx hb dX7_when_14 rfl (lv_at hl 0 rfl) ?_
    refine g_get hC V (ci := 7) uwX7 0 rfl rfl 1 (by decide) w_250 rfl rfl dX7_when_15 ?_
    refine lv_aload_n hx hb dX7_when_18 rfl (lv_at hl 0 rfl) ?_
    refine g_get hC V (ci := 7) uwX7 0 rfl rfl 0 (by decide) w_249 rfl rfl dX7_when_19 ?_
    refine g_callVU (nA := 1) hC V hl.1 (s_takeFrom l D T s0 n0 sn sm sl so su s1 s2 s3 s4 s5 s6 s7 s8 s9 s10 sf1 sf2 sf3 sf4 sf5 sf6 sf7 sf8 sf9 nn nm nl no nu n1 n2 n3 n4 n5 n6 n7 n8 n9 n10 nf1 nf2 nf3 nf4 nf5 nf6 nf7 nf8 nf9 (by first | assumption | omega)) w_413 w_414 w_415 w_3 w_416 (by decide +kernel) rfl ⟨(Nat.le_of_ble_eq_true rfl), (Nat.le_of_ble_eq_true rfl)⟩ 11 (ci := 5) rfl rfl [11, 12, 13, 14, 15, 16, 17, 18, 19, 20, 1, 2, 3, 4, 5, 6, 7, 8, 9, 10] rfl rfl (Nat.le_of_ble_eq_true rfl) dX7_when_22 ⟨(Nat.le_of_ble_eq_true rfl), (Nat.le_of_ble_eq_true rfl)⟩ rfl (fun r w1 H locs hQ V => ?_)
    obtain ⟨p1, p2, p3, p4, p5, p6, p7, p8, p9, rfl, rfl, f_5, f_6, f_7, f_8, f_9, f_10, f_11, f_12, f_13⟩ := hQ
    have V : gW D T A s [(o, .inr (7, [.ref n0, .ref s0, .ref im, .ref iz, .ref rw, .ref t0, .ref u0, .ref h0, .ref y0, sv])), (n0, .inr (5, [.int (nI nn), .int nm, .int nl, .int no, .int nu, .ref n1, .ref n2, .ref n3, .ref n4, .ref n5, .ref n6, .ref n7, .ref n8, .ref n9, .ref n10])), (n1, .inl (T 0, 10, .inl nf1)), (n2, .inl (T 0, 10, .inl nf2)), (n3, .inl (T 0, 10, .inl nf3)), (n4, .inl (T 0, 10, .inl nf4)), (n5, .inl (T 0, 10, .inl nf5)), (n6, .inl (T 0, 10, .inl nf6)), (n7, .inl (T 0, 10, .inl nf7)), (n8, .inl (T 0, 10, .inl nf8)), (n9, .inl (T 0, 10, .inl nf9)), (s0, .inr (5, [.int (nI nn), .int nm, .int nl, .int no, .int nu, .ref s1, .ref s2, .ref s3, .ref s4, .ref s5, .ref s6, .ref s7, .ref s8, .ref s9, .ref s10])), (s1, .inl (T 0, 10, .inl p1)), (s2, .inl (T 0, 10, .inl p2)), (s3, .inl (T 0, 10, .inl p3)), (s4, .inl (T 0, 10, .inl p4)), (s5, .inl (T 0, 10, .inl p5)), (s6, .inl (T 0, 10, .inl p6)), (s7, .inl (T 0, 10, .inl p7)), (s8, .inl (T 0, 10, .inl p8)), (s9, .inl (T 0, 10, .inl p9)), (s10, .inl (T 0, 10, .inl sf10))] H locs := V _ [1, 0, 0, 0, 0, 0, 0, 0, 0, 0, 0, 0, 0, 0, 0, 0, 0, 0, 0, 0] rfl rfl rfl (by decide +kernel) rfl
    show W p l e _ s m args below meth c H locs _ _ _ (F0 m 25 ls [])
    have hp9 : ∀ i, i < nn → bd (p9 i) nn := fun i h => by rw [f_13 i h]; exact h_t i h
    refine lv_iconst (v := (nI 0)) hx hb dX7_when_25 (by decide +kernel) ?_
    refine lv_istore_n (lv' := [(2, .int (nI 0)), (0, .ref o), (1, .int (nI j_1))]) hx hb dX7_when_26 rfl hl (by decide) rfl (fun ls hl => ?_)
    have L_14 : ∀ (fu : Nat) (k27 : Nat) (qm : Int32) (qu : Int32) (e3_ : Nat → Int32) (e7_ : Nat → Int32) (e8_ : Nat → Int32) (e10_ : Nat → Int32), k27 ≤ 301 → 301 - k27 < fu → ∀ (H : Heap) (locs : List Loc) (ls : Array Slot), gW D T A s [(o, .inr (7, [.ref n0, .ref s0, .ref im, .ref iz, .ref rw, .ref t0, .ref u0, .ref h0, .ref y0, sv])), (n0, .inr (5, [.int (nI nn), .int nm, .int nl, .int no, .int nu, .ref n1, .ref n2, .ref n3, .ref n4, .ref n5, .ref n6, .ref n7, .ref n8, .ref n9, .ref n10])), (n1, .inl (T 0, 10, .inl nf1)), (n2, .inl (T 0, 10, .inl nf2)), (n3, .inl (T 0, 10, .inl nf3)), (n4, .inl (T 0, 10, .inl nf4)), (n5, .inl (T 0, 10, .inl nf5)), (n6, .inl (T 0, 10, .inl nf6)), (n7, .inl (T 0, 10, .inl nf7)), (n8, .inl (T 0, 10, .inl nf8)), (n9, .inl (T 0, 10, .inl nf9)), (s0, .inr (5, [.int (nI nn), .int qm, .int nl, .int no, .int qu, .ref s1, .ref s2, .ref s3, .ref s4, .ref s5, .ref s6, .ref s7, .ref s8, .ref s9, .ref s10])), (s1, .inl (T 0, 10, .inl p1)), (s2, .inl (T 0, 10, .inl p2)), (s3, .inl (T 0, 10, .inl e3_)), (s4, .inl (T 0, 10, .inl p4)), (s5, .inl (T 0, 10, .inl p5)), (s6, .inl (T 0, 10, .inl p6)), (s7, .inl (T 0, 10, .inl e7_)), (s8, .inl (T 0, 10, .inl e8_)), (s9, .inl (T 0, 10, .inl p9)), (s10, .inl (T 0, 10, .inl e10_))] H locs → lv_has ls 3 [(2, .int (nI k27)), (0, .ref o), (1, .int (nI j_1))] → W p l e (rmD 5 0 0) s m args below meth c H locs 0 0 (MQ below (gQ D A (q_x_when T o i n0 s0 im iz rw t0 u0 h0 y0 sv nn nm nl no nu n1 n2 n3 n4 n5 n6 n7 n8 n9 n10 nf1 nf2 nf3 nf4 nf5 nf6 nf7 nf8 nf9 sn sm sl so su s1 s2 s3 s4 s5 s6 s7 s8 s9 s10 sf1 sf2 sf3 sf4 sf5 sf6 sf7 sf8 sf9 sf10)) args s 0 0 A) (F0 m 27 ls []) := by
      intro fu_27
      induction fu_27 with
      | zero => intro k27 qm qu e3_ e7_ e8_ e10_ hk27 hmu; exact absurd hmu (Nat.not_lt_zero _)
      | succ fu_27 ih_27 =>
        intro k27 qm qu e3_ e7_ e8_ e10_ hk27 hmu_27 H locs ls V hl
        refine lv_iload_n hx hb dX7_when_27 rfl (lv_at hl 0 rfl) ?_
        refine lv_sipush (v := (nI 300)) hx hb dX7_when_28 (by decide +kernel) ?_
        refine lv_icmp_gt (tgt := 64) hx hb dX7_when_31 (by decide) (fun c_15 => ?_) (fun c_15 => ?_)
        · skip
          have c_15 := b_lt (by omega) (by omega) c_15
          refine lv_iconst (v := (-1)) hx hb dX7_when_64 (by decide +kernel) ?_
          exact g_iret (Qr := (q_x_when T o i n0 s0 im iz rw t0 u0 h0 y0 sv nn nm nl no nu n1 n2 n3 n4 n5 n6 n7 n8 n9 n10 nf1 nf2 nf3 nf4 nf5 nf6 nf7 nf8 nf9 sn sm sl so su s1 s2 s3 s4 s5 s6 s7 s8 s9 s10 sf1 sf2 sf3 sf4 sf5 sf6 sf7 sf8 sf9 sf10)) hC V ⟨(Nat.le_of_ble_eq_true rfl), (Nat.le_of_ble_eq_true rfl)⟩ ⟨(-1), (nI nn), qm, nl, no, qu, p1, p2, e3_, p4, p5, p6, e7_, e8_, p9, e10_, rfl, rfl⟩ dX7_when_65
        · skip
          have c_15 := b_nlt (by omega) (by omega) c_15
          refine lv_aload_n hx hb dX7_when_34 rfl (lv_at hl 1 rfl) ?_
          refine g_get hC V (ci := 7) uwX7 0 rfl rfl 1 (by decide) w_250 rfl rfl dX7_when_35 ?_
          refine lv_iload_n hx hb dX7_when_38 rfl (lv_at hl 2 rfl) ?_
          refine g_callVU (nA := 1) hC V hl.1 (s_isDone l D T s0 j_1 nn qm nl no qu s1 s2 s3 s4 s5 s6 s7 s8 s9 s10 p6 e7_ (by first | assumption | omega)) w_429 w_430 w_431 w_3 w_432 (by decide +kernel) rfl ⟨(Nat.le_of_ble_eq_true rfl), (Nat.le_of_ble_eq_true rfl)⟩ 11 (ci := 5) rfl rfl [11, 17, 18] rfl rfl (Nat.le_of_ble_eq_true rfl) dX7_when_39 ⟨(Nat.le_of_ble_eq_true rfl), (Nat.le_of_ble_eq_true rfl)⟩ rfl (fun r w1 H locs hQ V => ?_)
          rcases hQ with ⟨rfl, rfl, f_16⟩ | ⟨rfl, rfl, f_17⟩
          · have V : gW D T A s [(o, .inr (7, [.ref n0, .ref s0, .ref im, .ref iz, .ref rw, .ref t0, .ref u0, .ref h0, .ref y0, sv])), (n0, .inr (5, [.int (nI nn), .int nm, .int nl, .int no, .int nu, .ref n1, .ref n2, .ref n3, .ref n4, .ref n5, .ref n6, .ref n7, .ref n8, .ref n9, .ref n10])), (n1, .inl (T 0, 10, .inl nf1)), (n2, .inl (T 0, 10, .inl nf2)), (n3, .inl (T 0, 10, .inl nf3)), (n4, .inl (T 0, 10, .inl nf4)), (n5, .inl (T 0, 10, .inl nf5)), (n6, .inl (T 0, 10, .inl nf6)), (n7, .inl (T 0, 10, .inl nf7)), (n8, .inl (T 0, 10, .inl nf8)), (n9, .inl (T 0, 10, .inl nf9)), (s0, .inr (5, [.int (nI nn), .int qm, .int nl, .int no, .int qu, .ref s1, .ref s2, .ref s3, .ref s4, .ref s5, .ref s6, .ref s7, .ref s8, .ref s9, .ref s10])), (s1, .inl (T 0, 10, .inl p1)), (s2, .inl (T 0, 10, .inl p2)), (s3, .inl (T 0, 10, .inl e3_)), (s4, .inl (T 0, 10, .inl p4)), (s5, .inl (T 0, 10, .inl p5)), (s6, .inl (T 0, 10, .inl p6)), (s7, .inl (T 0, 10, .inl e7_)), (s8, .inl (T 0, 10, .inl e8_)), (s9, .inl (T 0, 10, .inl p9)), (s10, .inl (T 0, 10, .inl e10_))] H locs := V _ [11, 5, 0] rfl rfl rfl (by decide +kernel) rfl
            show W p l e _ s m args below meth c H locs _ _ _ (F0 m 42 ls [.int (nI 1)])
            refine lv_if_eq (tgt := 47) hx hb dX7_when_42 (by decide) (fun c => absurd (show (nI 1) = 0 from c) (by decide +kernel)) (fun _ => ?_)
            refine lv_iload_n hx hb dX7_when_45 rfl (lv_at hl 0 rfl) ?_
            exact g_iret (Qr := (q_x_when T o i n0 s0 im iz rw t0 u0 h0 y0 sv nn nm nl no nu n1 n2 n3 n4 n5 n6 n7 n8 n9 n10 nf1 nf2 nf3 nf4 nf5 nf6 nf7 nf8 nf9 sn sm sl so su s1 s2 s3 s4 s5 s6 s7 s8 s9 s10 sf1 sf2 sf3 sf4 sf5 sf6 sf7 sf8 sf9 sf10)) hC V ⟨(Nat.le_of_ble_eq_true rfl), (Nat.le_of_ble_eq_true rfl)⟩ ⟨(nI k27), (nI nn), qm, nl, no, qu, p1, p2, e3_, p4, p5, p6, e7_, e8_, p9, e10_, rfl, rfl⟩ dX7_when_46
          · have V : gW D T A s [(o, .inr (7, [.ref n0, .ref s0, .ref im, .ref iz, .ref rw, .ref t0, .ref u0, .ref h0, .ref y0, sv])), (n0, .inr (5, [.int (nI nn), .int nm, .int nl, .int no, .int nu, .ref n1, .ref n2, .ref n3, .ref n4, .ref n5, .ref n6, .ref n7, .ref n8, .ref n9, .ref n10])), (n1, .inl (T 0, 10, .inl nf1)), (n2, .inl (T 0, 10, .inl nf2)), (n3, .inl (T 0, 10, .inl nf3)), (n4, .inl (T 0, 10, .inl nf4)), (n5, .inl (T 0, 10, .inl nf5)), (n6, .inl (T 0, 10, .inl nf6)), (n7, .inl (T 0, 10, .inl nf7)), (n8, .inl (T 0, 10, .inl nf8)), (n9, .inl (T 0, 10, .inl nf9)), (s0, .inr (5, [.int (nI nn), .int qm, .int nl, .int no, .int qu, .ref s1, .ref s2, .ref s3, .ref s4, .ref s5, .ref s6, .ref s7, .ref s8, .ref s9, .ref s10])), (s1, .inl (T 0, 10, .inl p1)), (s2, .inl (T 0, 10, .inl p2)), (s3, .inl (T 0, 10, .inl e3_)), (s4, .inl (T 0, 10, .inl p4)), (s5, .inl (T 0, 10, .inl p5)), (s6, .inl (T 0, 10, .inl p6)), (s7, .inl (T 0, 10, .inl e7_)), (s8, .inl (T 0, 10, .inl e8_)), (s9, .inl (T 0, 10, .inl p9)), (s10, .inl (T 0, 10, .inl e10_))] H locs := V _ [11, 5, 0] rfl rfl rfl (by decide +kernel) rfl
            show W p l e _ s m args below meth c H locs _ _ _ (F0 m 42 ls [.int (nI 0)])
            refine lv_if_eq (tgt := 47) hx hb dX7_when_42 (by decide) (fun _ => ?_) (fun c => absurd (show (nI 0) = 0 by decide +kernel) c)
            refine lv_aload_n hx hb dX7_when_47 rfl (lv_at hl 1 rfl) ?_
            refine g_get hC V (ci := 7) uwX7 0 rfl rfl 1 (by decide) w_250 rfl rfl dX7_when_48 ?_
            refine lv_iconst (v := (nI 0)) hx hb dX7_when_51 (by decide +kernel) ?_
            refine lv_iconst (v := (-1)) hx hb dX7_when_52 (by decide +kernel) ?_
            refine lv_iconst (v := (nI 0)) hx hb dX7_when_53 (by decide +kernel) ?_
            refine g_callVU (nA := 3) hC V hl.1 (s_passByCustom l D T s0 (nI 0) (-1) (nI 0) nn qm nl no qu s1 s2 s3 s4 s5 s6 s7 s8 s9 s10 p1 p2 e3_ p4 p5 p6 e7_ e8_ p9 e10_ (by first | assumption | omega) hp9) w_845 w_545 w_546 w_3 w_547 (by decide +kernel) rfl ⟨(Nat.le_of_ble_eq_true rfl), (Nat.le_of_ble_eq_true rfl)⟩ 11 (ci := 5) rfl rfl [11, 12, 13, 14, 15, 16, 17, 18, 19, 20, 21] rfl rfl (Nat.le_of_ble_eq_true rfl) dX7_when_54 ⟨(Nat.le_of_ble_eq_true rfl), (Nat.le_of_ble_eq_true rfl)⟩ rfl (fun r w1 H locs hQ V => ?_)
            obtain ⟨z_18, u_19, g3_20, g7_21, g8_22, g10_23, rfl, rfl⟩ := hQ
            have V : gW D T A s [(o, .inr (7, [.ref n0, .ref s0, .ref im, .ref iz, .ref rw, .ref t0, .ref u0, .ref h0, .ref y0, sv])), (n0, .inr (5, [.int (nI nn), .int nm, .int nl, .int no, .int nu, .ref n1, .ref n2, .ref n3, .ref n4, .ref n5, .ref n6, .ref n7, .ref n8, .ref n9, .ref n10])), (n1, .inl (T 0, 10, .inl nf1)), (n2, .inl (T 0, 10, .inl nf2)), (n3, .inl (T 0, 10, .inl nf3)), (n4, .inl (T 0, 10, .inl nf4)), (n5, .inl (T 0, 10, .inl nf5)), (n6, .inl (T 0, 10, .inl nf6)), (n7, .inl (T 0, 10, .inl nf7)), (n8, .inl (T 0, 10, .inl nf8)), (n9, .inl (T 0, 10, .inl nf9)), (s0, .inr (5, [.int (nI nn), .int (qm + (nI 1)), .int nl, .int no, .int u_19, .ref s1, .ref s2, .ref s3, .ref s4, .ref s5, .ref s6, .ref s7, .ref s8, .ref s9, .ref s10])), (s1, .inl (T 0, 10, .inl p1)), (s2, .inl (T 0, 10, .inl p2)), (s3, .inl (T 0, 10, .inl g3_20)), (s4, .inl (T 0, 10, .inl p4)), (s5, .inl (T 0, 10, .inl p5)), (s6, .inl (T 0, 10, .inl p6)), (s7, .inl (T 0, 10, .inl g7_21)), (s8, .inl (T 0, 10, .inl g8_22)), (s9, .inl (T 0, 10, .inl p9)), (s10, .inl (T 0, 10, .inl g10_23))] H locs := V _ [11, 0, 0, 0, 0, 0, 0, 0, 0, 0, 0] rfl rfl rfl (by decide +kernel) rfl
            show W p l e _ s m args below meth c H locs _ _ _ (F0 m 57 ls [.int z_18])
            refine lv_pop hx hb dX7_when_57 rfl ?_
            refine lv_iinc (v := (nI (k27 + 1))) (lv' := [(2, .int (nI (k27 + 1))), (0, .ref o), (1, .int (nI j_1))]) hx hb dX7_when_58 hl (k := 0) rfl (nI_1 _) (by decide) rfl (fun ls hl => ?_)
            refine lv_goto (tgt := 27) hx hb dX7_when_61 (by decide) ?_
            exact ih_27 (k27 + 1) (qm + (nI 1)) u_19 g3_20 g7_21 g8_22 g10_23 (by omega) (by omega) _ _ _ V (lv_sub hl [0, 1, 2] rfl)
    exact L_14 _ 0 nm nu p3 p7 p8 sf10 (by omega) (Nat.lt_succ_self _) _ _ _ V (lv_sub hl [0, 1, 2] rfl)
  · have V : gW D T A s [(o, .inr (7, [.ref n0, .ref s0, .ref im, .ref iz, .ref rw, .ref t0, .ref u0, .ref h0, .ref y0, sv])), (n0, .inr (5, [.int (nI nn), .int nm, .int nl, .int no, .int nu, .ref n1, .ref n2, .ref n3, .ref n4, .ref n5, .ref n6, .ref n7, .ref n8, .ref n9, .ref n10])), (n1, .inl (T 0, 10, .inl nf1)), (n2, .inl (T 0, 10, .inl nf2)), (n3, .inl (T 0, 10, .inl nf3)), (n4, .inl (T 0, 10, .inl nf4)), (n5, .inl (T 0, 10, .inl nf5)), (n6, .inl (T 0, 10, .inl nf6)), (n7, .inl (T 0, 10, .inl nf7)), (n8, .inl (T 0, 10, .inl nf8)), (n9, .inl (T 0, 10, .inl nf9)), (s0, .inr (5, [.int sn, .int sm, .int sl, .int so, .int su, .ref s1, .ref s2, .ref s3, .ref s4, .ref s5, .ref s6, .ref s7, .ref s8, .ref s9, .ref s10])), (s1, .inl (T 0, 10, .inl sf1)), (s2, .inl (T 0, 10, .inl sf2)), (s3, .inl (T 0, 10, .inl sf3)), (s4, .inl (T 0, 10, .inl sf4)), (s5, .inl (T 0, 10, .inl sf5)), (s6, .inl (T 0, 10, .inl sf6)), (s7, .inl (T 0, 10, .inl sf7)), (s8, .inl (T 0, 10, .inl sf8)), (s9, .inl (T 0, 10, .inl sf9)), (s10, .inl (T 0, 10, .inl sf10))] H locs := V _ [1] rfl rfl rfl (by decide +kernel) rfl
    show W p l e _ s m args below meth c H locs _ _ _ (F0 m 8 ls [.int (nI 0)])
    refine lv_if_ne (tgt := 14) hx hb dX7_when_8 (by decide) (fun c => absurd (show (nI 0) = 0 by decide +kernel) c) (fun _ => ?_)
    refine lv_bipush (v := (-2)) hx hb dX7_when_11 (by decide +kernel) ?_
    exact g_iret (Qr := (q_x_when T o i n0 s0 im iz rw t0 u0 h0 y0 sv nn nm nl no nu n1 n2 n3 n4 n5 n6 n7 n8 n9 n10 nf1 nf2 nf3 nf4 nf5 nf6 nf7 nf8 nf9 sn sm sl so su s1 s2 s3 s4 s5 s6 s7 s8 s9 s10 sf1 sf2 sf3 sf4 sf5 sf6 sf7 sf8 sf9 sf10)) hC V ⟨(Nat.le_of_ble_eq_true rfl), (Nat.le_of_ble_eq_true rfl)⟩ ⟨(-2), sn, sm, sl, so, su, sf1, sf2, sf3, sf4, sf5, sf6, sf7, sf8, sf9, sf10, rfl, rfl⟩ dX7_when_13

def q_x_warm (T : Nat → ClassId) (o : Nat) (i : Int32) (ht : Int32) (n0 : Nat) (s0 : Nat) (im : Nat) (iz : Nat) (rw : Nat) (t0 : Nat) (u0 : Nat) (h0 : Nat) (y0 : Nat) (sv : Value) (nn : Nat) (nm : Int32) (nl : Int32) (no : Int32) (nu : Int32) (n1 : Nat) (n2 : Nat) (n3 : Nat) (n4 : Nat) (n5 : Nat) (n6 : Nat) (n7 : Nat) (n8 : Nat) (n9 : Nat) (n10 : Nat) (nf1 : Nat → Int32) (nf2 : Nat → Int32) (nf3 : Nat → Int32) (nf9 : Nat → Int32) : Option Value → va_W → Prop := fun rr ww => (∃ (z : Int32), rr = some (.int z) ∧ ww = [(o, .inr (7, [.ref n0, .ref s0, .ref im, .ref iz, .ref rw, .ref t0, .ref u0, .ref h0, .ref y0, sv])), (n0, .inr (5, [.int (nI nn), .int nm, .int nl, .int no, .int nu, .ref n1, .ref n2, .ref n3, .ref n4, .ref n5, .ref n6, .ref n7, .ref n8, .ref n9, .ref n10])), (n1, .inl (T 0, 10, .inl nf1)), (n2, .inl (T 0, 10, .inl nf2)), (n3, .inl (T 0, 10, .inl nf3)), (n9, .inl (T 0, 10, .inl nf9))])
set_option maxHeartbeats 4000000 in
set_option maxRecDepth 100000 in
theorem x_warm (l : Launch) (D : va_G) (T : Nat → ClassId) (o : Nat) (i : Int32) (ht : Int32) (n0 : Nat) (s0 : Nat) (im : Nat) (iz : Nat) (rw : Nat) (t0 : Nat) (u0 : Nat) (h0 : Nat) (y0 : Nat) (sv : Value) (nn : Nat) (nm : Int32) (nl : Int32) (no : Int32) (nu : Int32) (n1 : Nat) (n2 : Nat) (n3 : Nat) (n4 : Nat) (n5 : Nat) (n6 : Nat) (n7 : Nat) (n8 : Nat) (n9 : Nat) (n10 : Nat) (nf1 : Nat → Int32) (nf2 : Nat → Int32) (nf3 : Nat → Int32) (nf9 : Nat → Int32) (h_n : nn ≤ 10) : Ct l yX7_warm cX7_warm 5 (some .int) 2 0 0 D T [.ref o, .int i, .int ht] [(o, .inr (7, [.ref n0, .ref s0, .ref im, .ref iz, .ref rw, .ref t0, .ref u0, .ref h0, .ref y0, sv])), (n0, .inr (5, [.int (nI nn), .int nm, .int nl, .int no, .int nu, .ref n1, .ref n2, .ref n3, .ref n4, .ref n5, .ref n6, .ref n7, .ref n8, .ref n9, .ref n10])), (n1, .inl (T 0, 10, .inl nf1)), (n2, .inl (T 0, 10, .inl nf2)), (n3, .inl (T 0, 10, .inl nf3)), (n9, .inl (T 0, 10, .inl nf9))] (q_x_warm T o i ht n0 s0 im iz rw t0 u0 h0 y0 sv nn nm nl no nu n1 n2 n3 n4 n5 n6 n7 n8 n9 n10 nf1 nf2 nf3 nf9) := by
  refine Ct.of (cc := cX7_warm) (maxL := 5) (ret := (some .int)) (by decide) (Nat.le_of_ble_eq_true rfl) ?_
  intro p e s m args below meth c A ls hC hnm V hl
  obtain ⟨hx, hb, hr, hml, hown, hts, hlocks⟩ := id hC
  generalize hH : s.heap = H at V ⊢
  clear hH
  have hl : lv_has ls 5 [(0, .ref o), (1, .int i), (2, .int ht)] := hl
  generalize hlo : ([] : List Loc) = locs at V ⊢
  clear hlo
  refine lv_aload_n hx hb dX7_warm_0 rfl (lv_at hl 0 rfl) ?_
  refine g_get hC V (ci := 7) uwX7 0 rfl rfl 0 (by decide) w_249 rfl rfl dX7_warm_1 ?_
  refine lv_iload_n hx hb dX7_warm_4 rfl (lv_at hl 1 rfl) ?_
  refine g_callVU (nA := 1) hC V hl.1 (s_isSmith l D T n0 i nn nm nl no nu n1 n2 n3 n4 n5 n6 n7 n8 n9 n10 (by first | assumption | omega)) w_425 w_426 w_427 w_3 w_428 (by decide +kernel) rfl ⟨(Nat.le_of_ble_eq_true rfl), (Nat.le_of_ble_eq_true rfl)⟩ 1 (ci := 5) rfl rfl [1] rfl rfl (Nat.le_of_ble_eq_true rfl) dX7_warm_5 ⟨(Nat.le_of_ble_eq_true rfl), (Nat.le_of_ble_eq_true rfl)⟩ rfl (fun r w1 H locs hQ V => ?_)
  rcases hQ with ⟨j_1, rfl, rfl, f_2, f_3⟩ | ⟨rfl, rfl, f_4⟩
  · have V : gW D T A s [(o, .inr (7, [.ref n0, .ref s0, .ref im, .ref iz, .ref rw, .ref t0, .ref u0, .ref h0, .ref y0, sv])), (n0, .inr (5, [.int (nI nn), .int nm, .int nl, .int no, .int nu, .ref n1, .ref n2, .ref n3, .ref n4, .ref n5, .ref n6, .ref n7, .ref n8, .ref n9, .ref n10])), (n1, .inl (T 0, 10, .inl nf1)), (n2, .inl (T 0, 10, .inl nf2)), (n3, .inl (T 0, 10, .inl nf3)), (n9, .inl (T 0, 10, .inl nf9))] H locs := V _ [1] rfl rfl rfl (by decide +kernel) rfl
    show W p l e _ s m args below meth c H locs _ _ _ (F0 m 8 ls [.int (nI 1)])
    rw [f_2] at hl
    refine lv_if_ne (tgt := 14) hx hb dX7_warm_8 (by decide) (fun _ => ?_) (fun c => absurd (show (nI 1) = 0 from c) (by decide +kernel))
    refine lv_iload_n hx hb dX7_warm_14 rfl (lv_at hl 2 rfl) ?_
    refine lv_iconst (v := (nI 0)) hx hb dX7_warm_15 (by decide +kernel) ?_
    refine lv_sipush (v := (nI 200)) hx hb dX7_warm_16 (by decide +kernel) ?_
    refine g_callSU (nA := 3) hC V hl.1 (c_isWithin l D T ht (nI 0) (nI 200)) w_292 w_293 w_2 w_294 (by decide +kernel) rfl ⟨(Nat.le_of_ble_eq_true rfl), (Nat.le_of_ble_eq_true rfl)⟩ [] rfl rfl (Nat.le_of_ble_eq_true rfl) dX7_warm_19 ⟨(Nat.le_of_ble_eq_true rfl), (Nat.le_of_ble_eq_true rfl)⟩ rfl (fun r w1 H locs hQ V => ?_)
    rcases hQ with ⟨rfl, rfl, f_5, f_6⟩ | ⟨rfl, rfl, f_7⟩
    · have V : gW D T A s [(o, .inr (7, [.ref n0, .ref s0, .ref im, .ref iz, .ref rw, .ref t0, .ref u0, .ref h0, .ref y0, sv])), (n0, .inr (5, [.int (nI nn), .int nm, .int nl, .int no, .int nu, .ref n1, .ref n2, .ref n3, .ref n4, .ref n5, .ref n6, .ref n7, .ref n8, .ref n9, .ref n10])), (n1, .inl (T 0, 10, .inl nf1)), (n2, .inl (T 0, 10, .inl nf2)), (n3, .inl (T 0, 10, .inl nf3)), (n9, .inl (T 0, 10, .inl nf9))] H locs := V _ [] rfl rfl rfl (by decide +kernel) rfl
      show W p l e _ s m args below meth c H locs _ _ _ (F0 m 22 ls [.int (nI 1)])
      refine lv_if_ne (tgt := 28) hx hb dX7_warm_22 (by decide) (fun _ => ?_) (fun c => absurd (show (nI 1) = 0 from c) (by decide +kernel))
      refine lv_iload_n hx hb dX7_warm_28 rfl (lv_at hl 2 rfl) ?_
      refine lv_aload_n hx hb dX7_warm_29 rfl (lv_at hl 0 rfl) ?_
      refine g_get hC V (ci := 7) uwX7 0 rfl rfl 0 (by decide) w_249 rfl rfl dX7_warm_30 ?_
      refine g_get hC V (ci := 5) uwX5 1 rfl rfl 7 (by decide) w_65 rfl rfl dX7_warm_33 ?_
      refine lv_iload_n hx hb dX7_warm_36 rfl (lv_at hl 1 rfl) ?_
      refine g_iald hC V 4 rfl (vp_in_nI (by omega) (by omega)) (v := (nf3 j_1)) (congrArg _ (nI_clamp (by omega))) dX7_warm_37 ?_
      refine lv_isub hx hb dX7_warm_38 ?_
      refine lv_istore_n (lv' := [(3, .int (ht - (nf3 j_1))), (0, .ref o), (1, .int (nI j_1)), (2, .int ht)]) hx hb dX7_warm_39 rfl hl (by decide) rfl (fun ls hl => ?_)
      refine lv_iload_n hx hb dX7_warm_40 rfl (lv_at hl 0 rfl) ?_
      refine lv_if_gt (tgt := 46) hx hb dX7_warm_41 (by decide) (fun c_8 => ?_) (fun c_8 => ?_)
      · skip
        refine lv_aload_n hx hb dX7_warm_46 rfl (lv_at hl 1 rfl) ?_
        refine g_get hC V (ci := 7) uwX7 0 rfl rfl 0 (by decide) w_249 rfl rfl dX7_warm_47 ?_
        refine lv_iload_n hx hb dX7_warm_50 rfl (lv_at hl 2 rfl) ?_
        refine lv_aload_n hx hb dX7_warm_51 rfl (lv_at hl 1 rfl) ?_
        refine g_get hC V (ci := 7) uwX7 0 rfl rfl 0 (by decide) w_249 rfl rfl dX7_warm_52 ?_
        refine g_callVU (nA := 0) hC V hl.1 (s_everyone l D T n0 nn nm nl no nu n1 n2 n3 n4 n5 n6 n7 n8 n9 n10 (by first | assumption | omega)) w_682 w_463 w_464 w_3 w_465 (by decide +kernel) rfl ⟨(Nat.le_of_ble_eq_true rfl), (Nat.le_of_ble_eq_true rfl)⟩ 1 (ci := 5) rfl rfl [1] rfl rfl (Nat.le_of_ble_eq_true rfl) dX7_warm_55 ⟨(Nat.le_of_ble_eq_true rfl), (Nat.le_of_ble_eq_true rfl)⟩ rfl (fun r w1 H locs hQ V => ?_)
        obtain ⟨rfl, rfl⟩ := hQ
        have V : gW D T A s [(o, .inr (7, [.ref n0, .ref s0, .ref im, .ref iz, .ref rw, .ref t0, .ref u0, .ref h0, .ref y0, sv])), (n0, .inr (5, [.int (nI nn), .int nm, .int nl, .int no, .int nu, .ref n1, .ref n2, .ref n3, .ref n4, .ref n5, .ref n6, .ref n7, .ref n8, .ref n9, .ref n10])), (n1, .inl (T 0, 10, .inl nf1)), (n2, .inl (T 0, 10, .inl nf2)), (n3, .inl (T 0, 10, .inl nf3)), (n9, .inl (T 0, 10, .inl nf9))] H locs := V _ [1] rfl rfl rfl (by decide +kernel) rfl
        show W p l e _ s m args below meth c H locs _ _ _ (F0 m 58 ls [.int (nI (2 ^ nn - 1)), .int (nI j_1), .ref n0])
        refine g_callVU (nA := 2) hC V hl.1 (s_blastOn l D T n0 (nI j_1) (nI (2 ^ nn - 1)) nn nm nl no nu n1 n2 n3 n4 n5 n6 n7 n8 n9 n10 nf1 nf9 (by first | assumption | omega)) w_850 w_700 w_701 w_3 w_702 (by decide +kernel) rfl ⟨(Nat.le_of_ble_eq_true rfl), (Nat.le_of_ble_eq_true rfl)⟩ 1 (ci := 5) rfl rfl [1, 2, 5] rfl rfl (Nat.le_of_ble_eq_true rfl) dX7_warm_58 ⟨(Nat.le_of_ble_eq_true rfl), (Nat.le_of_ble_eq_true rfl)⟩ rfl (fun r w1 H locs hQ V => ?_)
        obtain ⟨z_9, rfl, rfl⟩ := hQ
        have V : gW D T A s [(o, .inr (7, [.ref n0, .ref s0, .ref im, .ref iz, .ref rw, .ref t0, .ref u0, .ref h0, .ref y0, sv])), (n0, .inr (5, [.int (nI nn), .int nm, .int nl, .int no, .int nu, .ref n1, .ref n2, .ref n3, .ref n4, .ref n5, .ref n6, .ref n7, .ref n8, .ref n9, .ref n10])), (n1, .inl (T 0, 10, .inl nf1)), (n2, .inl (T 0, 10, .inl nf2)), (n3, .inl (T 0, 10, .inl nf3)), (n9, .inl (T 0, 10, .inl nf9))] H locs := V _ [1, 0, 2] rfl rfl rfl (by decide +kernel) rfl
        show W p l e _ s m args below meth c H locs _ _ _ (F0 m 61 ls [.int z_9])
        refine lv_aload_n hx hb dX7_warm_61 rfl (lv_at hl 1 rfl) ?_
        refine g_get hC V (ci := 7) uwX7 0 rfl rfl 0 (by decide) w_249 rfl rfl dX7_warm_62 ?_
        refine g_get hC V (ci := 5) uwX5 1 rfl rfl 6 (by decide) w_60 rfl rfl dX7_warm_65 ?_
        refine lv_iload_n hx hb dX7_warm_68 rfl (lv_at hl 2 rfl) ?_
        refine g_iald hC V 3 rfl (vp_in_nI (by omega) (by omega)) (v := (nf2 j_1)) (congrArg _ (nI_clamp (by omega))) dX7_warm_69 ?_
        refine lv_isub hx hb dX7_warm_70 ?_
        refine lv_istore (lv' := [(4, .int (z_9 - (nf2 j_1))), (3, .int (ht - (nf3 j_1))), (0, .ref o), (1, .int (nI j_1)), (2, .int ht)]) hx hb dX7_warm_71 hl (by decide) rfl (fun ls hl => ?_)
        refine lv_iload hx hb dX7_warm_73 (lv_at hl 0 rfl) ?_
        refine lv_if_gt (tgt := 82) hx hb dX7_warm_75 (by decide) (fun c_10 => ?_) (fun c_10 => ?_)
        · skip
          have hgn : ∀ x : Int32, 0 < x → ¬ x = 0 := fun x h e => absurd (e ▸ h) (by decide +kernel)
          refine lv_iload_n hx hb dX7_warm_82 rfl (lv_at hl 1 rfl) ?_
          refine lv_iload hx hb dX7_warm_83 (lv_at hl 0 rfl) ?_
          refine lv_iadd hx hb dX7_warm_85 ?_
          refine lv_topi (fun x_11 ex_11 => ?_)
          refine lv_iconst (v := (nI 1)) hx hb dX7_warm_86 (by decide +kernel) ?_
          refine lv_isub hx hb dX7_warm_87 ?_
          refine lv_iload hx hb dX7_warm_88 (lv_at hl 0 rfl) ?_
          refine lv_idiv hx hb dX7_warm_90 (hgn _ (by assumption)) ?_
          refine lv_topi (fun x_12 ex_12 => ?_)
          exact g_iret (Qr := (q_x_warm T o i ht n0 s0 im iz rw t0 u0 h0 y0 sv nn nm nl no nu n1 n2 n3 n4 n5 n6 n7 n8 n9 n10 nf1 nf2 nf3 nf9)) hC V ⟨(Nat.le_of_ble_eq_true rfl), (Nat.le_of_ble_eq_true rfl)⟩ ⟨x_12, rfl, rfl⟩ dX7_warm_91
        · skip
          refine lv_iconst (v := (-1)) hx hb dX7_warm_78 (by decide +kernel) ?_
          refine lv_goto (tgt := 91) hx hb dX7_warm_79 (by decide) ?_
          exact g_iret (Qr := (q_x_warm T o i ht n0 s0 im iz rw t0 u0 h0 y0 sv nn nm nl no nu n1 n2 n3 n4 n5 n6 n7 n8 n9 n10 nf1 nf2 nf3 nf9)) hC V ⟨(Nat.le_of_ble_eq_true rfl), (Nat.le_of_ble_eq_true rfl)⟩ ⟨(-1), rfl, rfl⟩ dX7_warm_91
      · skip
        refine lv_iconst (v := (nI 0)) hx hb dX7_warm_44 (by decide +kernel) ?_
        exact g_iret (Qr := (q_x_warm T o i ht n0 s0 im iz rw t0 u0 h0 y0 sv nn nm nl no nu n1 n2 n3 n4 n5 n6 n7 n8 n9 n10 nf1 nf2 nf3 nf9)) hC V ⟨(Nat.le_of_ble_eq_true rfl), (Nat.le_of_ble_eq_true rfl)⟩ ⟨(nI 0), rfl, rfl⟩ dX7_warm_45
    · have V : gW D T A s [(o, .inr (7, [.ref n0, .ref s0, .ref im, .ref iz, .ref rw, .ref t0, .ref u0, .ref h0, .ref y0, sv])), (n0, .inr (5, [.int (nI nn), .int nm, .int nl, .int no, .int nu, .ref n1, .ref n2, .ref n3, .ref n4, .ref n5, .ref n6, .ref n7, .ref n8, .ref n9, .ref n10])), (n1, .inl (T 0, 10, .inl nf1)), (n2, .inl (T 0, 10, .inl nf2)), (n3, .inl (T 0, 10, .inl nf3)), (n9, .inl (T 0, 10, .inl nf9))] H locs := V _ [] rfl rfl rfl (by decide +kernel) rfl
      show W p l e _ s m args below meth c H locs _ _ _ (F0 m 22 ls [.int (nI 0)])
      refine lv_if_ne (tgt := 28) hx hb dX7_warm_22 (by decide) (fun c => absurd (show (nI 0) = 0 by decide +kernel) c) (fun _ => ?_)
      refine lv_bipush (v := (-3)) hx hb dX7_warm_25 (by decide +kernel) ?_
      exact g_iret (Qr := (q_x_warm T o i ht n0 s0 im iz rw t0 u0 h0 y0 sv nn nm nl no nu n1 n2 n3 n4 n5 n6 n7 n8 n9 n10 nf1 nf2 nf3 nf9)) hC V ⟨(Nat.le_of_ble_eq_true rfl), (Nat.le_of_ble_eq_true rfl)⟩ ⟨(-3), rfl, rfl⟩ dX7_warm_27
  · have V : gW D T A s [(o, .inr (7, [.ref n0, .ref s0, .ref im, .ref iz, .ref rw, .ref t0, .ref u0, .ref h0, .ref y0, sv])), (n0, .inr (5, [.int (nI nn), .int nm, .int nl, .int no, .int nu, .ref n1, .ref n2, .ref n3, .ref n4, .ref n5, .ref n6, .ref n7, .ref n8, .ref n9, .ref n10])), (n1, .inl (T 0, 10, .inl nf1)), (n2, .inl (T 0, 10, .inl nf2)), (n3, .inl (T 0, 10, .inl nf3)), (n9, .inl (T 0, 10, .inl nf9))] H locs := V _ [1] rfl rfl rfl (by decide +kernel) rfl
    show W p l e _ s m args below meth c H locs _ _ _ (F0 m 8 ls [.int (nI 0)])
    refine lv_if_ne (tgt := 14) hx hb dX7_warm_8 (by decide) (fun c => absurd (show (nI 0) = 0 by decide +kernel) c) (fun _ => ?_)
    refine lv_bipush (v := (-2)) hx hb dX7_warm_11 (by decide +kernel) ?_
    exact g_iret (Qr := (q_x_warm T o i ht n0 s0 im iz rw t0 u0 h0 y0 sv nn nm nl no nu n1 n2 n3 n4 n5 n6 n7 n8 n9 n10 nf1 nf2 nf3 nf9)) hC V ⟨(Nat.le_of_ble_eq_true rfl), (Nat.le_of_ble_eq_true rfl)⟩ ⟨(-2), rfl, rfl⟩ dX7_warm_13

def q_x_cold (T : Nat → ClassId) (o : Nat) (i : Int32) (n0 : Nat) (s0 : Nat) (im : Nat) (iz : Nat) (rw : Nat) (t0 : Nat) (u0 : Nat) (h0 : Nat) (y0 : Nat) (sv : Value) (nn : Nat) (nm : Int32) (nl : Int32) (no : Int32) (nu : Int32) (n1 : Nat) (n2 : Nat) (n3 : Nat) (n4 : Nat) (n5 : Nat) (n6 : Nat) (n7 : Nat) (n8 : Nat) (n9 : Nat) (n10 : Nat) (nf2 : Nat → Int32) (nf3 : Nat → Int32) (nf4 : Nat → Int32) : Option Value → va_W → Prop := fun rr ww => (∃ (z : Int32), rr = some (.int z) ∧ ww = [(o, .inr (7, [.ref n0, .ref s0, .ref im, .ref iz, .ref rw, .ref t0, .ref u0, .ref h0, .ref y0, sv])), (n0, .inr (5, [.int (nI nn), .int nm, .int nl, .int no, .int nu, .ref n1, .ref n2, .ref n3, .ref n4, .ref n5, .ref n6, .ref n7, .ref n8, .ref n9, .ref n10])), (n2, .inl (T 0, 10, .inl nf2)), (n3, .inl (T 0, 10, .inl nf3)), (n4, .inl (T 0, 10, .inl nf4))])
set_option maxHeartbeats 4000000 in
set_option maxRecDepth 100000 in
theorem x_cold (l : Launch) (D : va_G) (T : Nat → ClassId) (o : Nat) (i : Int32) (n0 : Nat) (s0 : Nat) (im : Nat) (iz : Nat) (rw : Nat) (t0 : Nat) (u0 : Nat) (h0 : Nat) (y0 : Nat) (sv : Value) (nn : Nat) (nm : Int32) (nl : Int32) (no : Int32) (nu : Int32) (n1 : Nat) (n2 : Nat) (n3 : Nat) (n4 : Nat) (n5 : Nat) (n6 : Nat) (n7 : Nat) (n8 : Nat) (n9 : Nat) (n10 : Nat) (nf2 : Nat → Int32) (nf3 : Nat → Int32) (nf4 : Nat → Int32) (h_n : nn ≤ 10) : Ct l yX7_cold cX7_cold 3 (some .int) 1 0 0 D T [.ref o, .int i] [(o, .inr (7, [.ref n0, .ref s0, .ref im, .ref iz, .ref rw, .ref t0, .ref u0, .ref h0, .ref y0, sv])), (n0, .inr (5, [.int (nI nn), .int nm, .int nl, .int no, .int nu, .ref n1, .ref n2, .ref n3, .ref n4, .ref n5, .ref n6, .ref n7, .ref n8, .ref n9, .ref n10])), (n2, .inl (T 0, 10, .inl nf2)), (n3, .inl (T 0, 10, .inl nf3)), (n4, .inl (T 0, 10, .inl nf4))] (q_x_cold T o i n0 s0 im iz rw t0 u0 h0 y0 sv nn nm nl no nu n1 n2 n3 n4 n5 n6 n7 n8 n9 n10 nf2 nf3 nf4) := by
  refine Ct.of (cc := cX7_cold) (maxL := 3) (ret := (some .int)) (by decide) (Nat.le_of_ble_eq_true rfl) ?_
  intro p e s m args below meth c A ls hC hnm V hl
  obtain ⟨hx, hb, hr, hml, hown, hts, hlocks⟩ := id hC
  generalize hH : s.heap = H at V ⊢
  clear hH
  have hl : lv_has ls 3 [(0, .ref o), (1, .int i)] := hl
  generalize hlo : ([] : List Loc) = locs at V ⊢
  clear hlo
  refine lv_aload_n hx hb dX7_cold_0 rfl (lv_at hl 0 rfl) ?_
  refine g_get hC V (ci := 7) uwX7 0 rfl rfl 0 (by decide) w_249 rfl rfl dX7_cold_1 ?_
  refine lv_iload_n hx hb dX7_cold_4 rfl (lv_at hl 1 rfl) ?_
  refine g_callVU (nA := 1) hC V hl.1 (s_isSmith l D T n0 i nn nm nl no nu n1 n2 n3 n4 n5 n6 n7 n8 n9 n10 (by first | assumption | omega)) w_425 w_426 w_427 w_3 w_428 (by decide +kernel) rfl ⟨(Nat.le_of_ble_eq_true rfl), (Nat.le_of_ble_eq_true rfl)⟩ 1 (ci := 5) rfl rfl [1] rfl rfl (Nat.le_of_ble_eq_true rfl) dX7_cold_5 ⟨(Nat.le_of_ble_eq_true rfl), (Nat.le_of_ble_eq_true rfl)⟩ rfl (fun r w1 H locs hQ V => ?_)
  rcases hQ with ⟨j_1, rfl, rfl, f_2, f_3⟩ | ⟨rfl, rfl, f_4⟩
  · have V : gW D T A s [(o, .inr (7, [.ref n0, .ref s0, .ref im, .ref iz, .ref rw, .ref t0, .ref u0, .ref h0, .ref y0, sv])), (n0, .inr (5, [.int (nI nn), .int nm, .int nl, .int no, .int nu, .ref n1, .ref n2, .ref n3, .ref n4, .ref n5, .ref n6, .ref n7, .ref n8, .ref n9, .ref n10])), (n2, .inl (T 0, 10, .inl nf2)), (n3, .inl (T 0, 10, .inl nf3)), (n4, .inl (T 0, 10, .inl nf4))] H locs := V _ [1] rfl rfl rfl (by decide +kernel) rfl
    show W p l e _ s m args below meth c H locs _ _ _ (F0 m 8 ls [.int (nI 1)])
    rw [f_2] at hl
    refine lv_if_ne (tgt := 14) hx hb dX7_cold_8 (by decide) (fun _ => ?_) (fun c => absurd (show (nI 1) = 0 from c) (by decide +kernel))
    refine lv_aload_n hx hb dX7_cold_14 rfl (lv_at hl 0 rfl) ?_
    refine g_get hC V (ci := 7) uwX7 0 rfl rfl 0 (by decide) w_249 rfl rfl dX7_cold_15 ?_
    refine g_get hC V (ci := 5) uwX5 1 rfl rfl 7 (by decide) w_65 rfl rfl dX7_cold_18 ?_
    refine lv_iload_n hx hb dX7_cold_21 rfl (lv_at hl 1 rfl) ?_
    refine g_iald hC V 3 rfl (vp_in_nI (by omega) (by omega)) (v := (nf3 j_1)) (congrArg _ (nI_clamp (by omega))) dX7_cold_22 ?_
    refine lv_aload_n hx hb dX7_cold_23 rfl (lv_at hl 0 rfl) ?_
    refine g_get hC V (ci := 7) uwX7 0 rfl rfl 0 (by decide) w_249 rfl rfl dX7_cold_24 ?_
    refine g_get hC V (ci := 5) uwX5 1 rfl rfl 8 (by decide) w_69 rfl rfl dX7_cold_27 ?_
    refine lv_iload_n hx hb dX7_cold_30 rfl (lv_at hl 1 rfl) ?_
    refine g_iald hC V 4 rfl (vp_in_nI (by omega) (by omega)) (v := (nf4 j_1)) (congrArg _ (nI_clamp (by omega))) dX7_cold_31 ?_
    refine lv_isub hx hb dX7_cold_32 ?_
    refine lv_istore_n (lv' := [(2, .int ((nf3 j_1) - (nf4 j_1))), (0, .ref o), (1, .int (nI j_1))]) hx hb dX7_cold_33 rfl hl (by decide) rfl (fun ls hl => ?_)
    refine lv_iload_n hx hb dX7_cold_34 rfl (lv_at hl 0 rfl) ?_
    refine lv_if_ge (tgt := 40) hx hb dX7_cold_35 (by decide) (fun c_5 => ?_) (fun c_5 => ?_)
    · skip
      refine lv_aload_n hx hb dX7_cold_40 rfl (lv_at hl 1 rfl) ?_
      refine g_get hC V (ci := 7) uwX7 0 rfl rfl 0 (by decide) w_249 rfl rfl dX7_cold_41 ?_
      refine g_get hC V (ci := 5) uwX5 1 rfl rfl 6 (by decide) w_60 rfl rfl dX7_cold_44 ?_
      refine lv_iload_n hx hb dX7_cold_47 rfl (lv_at hl 2 rfl) ?_
      refine g_iald hC V 2 rfl (vp_in_nI (by omega) (by omega)) (v := (nf2 j_1)) (congrArg _ (nI_clamp (by omega))) dX7_cold_48 ?_
      refine lv_if_le (tgt := 64) hx hb dX7_cold_49 (by decide) (fun c_6 => ?_) (fun c_6 => ?_)
      · skip
        refine lv_iconst (v := (-1)) hx hb dX7_cold_64 (by decide +kernel) ?_
        exact g_iret (Qr := (q_x_cold T o i n0 s0 im iz rw t0 u0 h0 y0 sv nn nm nl no nu n1 n2 n3 n4 n5 n6 n7 n8 n9 n10 nf2 nf3 nf4)) hC V ⟨(Nat.le_of_ble_eq_true rfl), (Nat.le_of_ble_eq_true rfl)⟩ ⟨(-1), rfl, rfl⟩ dX7_cold_65
      · skip
        have hgn : ¬ nf2 j_1 = 0 := fun e => c_6 (by rw [e]; decide +kernel)
        refine lv_aload_n hx hb dX7_cold_52 rfl (lv_at hl 1 rfl) ?_
        refine g_get hC V (ci := 7) uwX7 0 rfl rfl 0 (by decide) w_249 rfl rfl dX7_cold_53 ?_
        refine g_get hC V (ci := 5) uwX5 1 rfl rfl 8 (by decide) w_69 rfl rfl dX7_cold_56 ?_
        refine lv_iload_n hx hb dX7_cold_59 rfl (lv_at hl 2 rfl) ?_
        refine g_iald hC V 4 rfl (vp_in_nI (by omega) (by omega)) (v := (nf4 j_1)) (congrArg _ (nI_clamp (by omega))) dX7_cold_60 ?_
        refine lv_if_ne (tgt := 66) hx hb dX7_cold_61 (by decide) (fun c_7 => ?_) (fun c_7 => ?_)
        · skip
          refine lv_iload_n hx hb dX7_cold_66 rfl (lv_at hl 0 rfl) ?_
          refine lv_aload_n hx hb dX7_cold_67 rfl (lv_at hl 1 rfl) ?_
          refine g_get hC V (ci := 7) uwX7 0 rfl rfl 0 (by decide) w_249 rfl rfl dX7_cold_68 ?_
          refine g_get hC V (ci := 5) uwX5 1 rfl rfl 6 (by decide) w_60 rfl rfl dX7_cold_71 ?_
          refine lv_iload_n hx hb dX7_cold_74 rfl (lv_at hl 2 rfl) ?_
          refine g_iald hC V 2 rfl (vp_in_nI (by omega) (by omega)) (v := (nf2 j_1)) (congrArg _ (nI_clamp (by omega))) dX7_cold_75 ?_
          refine lv_idiv hx hb dX7_cold_76 (by assumption) ?_
          refine lv_iconst (v := (nI 1)) hx hb dX7_cold_77 (by decide +kernel) ?_
          refine lv_iadd hx hb dX7_cold_78 ?_
          exact g_iret (Qr := (q_x_cold T o i n0 s0 im iz rw t0 u0 h0 y0 sv nn nm nl no nu n1 n2 n3 n4 n5 n6 n7 n8 n9 n10 nf2 nf3 nf4)) hC V ⟨(Nat.le_of_ble_eq_true rfl), (Nat.le_of_ble_eq_true rfl)⟩ ⟨((((nf3 j_1) - (nf4 j_1)) / (nf2 j_1)) + (nI 1)), rfl, rfl⟩ dX7_cold_79
        · skip
          refine lv_iconst (v := (-1)) hx hb dX7_cold_64 (by decide +kernel) ?_
          exact g_iret (Qr := (q_x_cold T o i n0 s0 im iz rw t0 u0 h0 y0 sv nn nm nl no nu n1 n2 n3 n4 n5 n6 n7 n8 n9 n10 nf2 nf3 nf4)) hC V ⟨(Nat.le_of_ble_eq_true rfl), (Nat.le_of_ble_eq_true rfl)⟩ ⟨(-1), rfl, rfl⟩ dX7_cold_65
    · skip
      refine lv_iconst (v := (nI 0)) hx hb dX7_cold_38 (by decide +kernel) ?_
      exact g_iret (Qr := (q_x_cold T o i n0 s0 im iz rw t0 u0 h0 y0 sv nn nm nl no nu n1 n2 n3 n4 n5 n6 n7 n8 n9 n10 nf2 nf3 nf4)) hC V ⟨(Nat.le_of_ble_eq_true rfl), (Nat.le_of_ble_eq_true rfl)⟩ ⟨(nI 0), rfl, rfl⟩ dX7_cold_39
  · have V : gW D T A s [(o, .inr (7, [.ref n0, .ref s0, .ref im, .ref iz, .ref rw, .ref t0, .ref u0, .ref h0, .ref y0, sv])), (n0, .inr (5, [.int (nI nn), .int nm, .int nl, .int no, .int nu, .ref n1, .ref n2, .ref n3, .ref n4, .ref n5, .ref n6, .ref n7, .ref n8, .ref n9, .ref n10])), (n2, .inl (T 0, 10, .inl nf2)), (n3, .inl (T 0, 10, .inl nf3)), (n4, .inl (T 0, 10, .inl nf4))] H locs := V _ [1] rfl rfl rfl (by decide +kernel) rfl
    show W p l e _ s m args below meth c H locs _ _ _ (F0 m 8 ls [.int (nI 0)])
    refine lv_if_ne (tgt := 14) hx hb dX7_cold_8 (by decide) (fun c => absurd (show (nI 0) = 0 by decide +kernel) c) (fun _ => ?_)
    refine lv_bipush (v := (-2)) hx hb dX7_cold_11 (by decide +kernel) ?_
    exact g_iret (Qr := (q_x_cold T o i n0 s0 im iz rw t0 u0 h0 y0 sv nn nm nl no nu n1 n2 n3 n4 n5 n6 n7 n8 n9 n10 nf2 nf3 nf4)) hC V ⟨(Nat.le_of_ble_eq_true rfl), (Nat.le_of_ble_eq_true rfl)⟩ ⟨(-2), rfl, rfl⟩ dX7_cold_13

/-- what numbers(row, sort, n) answers -/
def numWhy (row sort n : Int32) : Int32 := if (row < 0 ∨ nI 4 ≤ row) ∨ (sort < nI 0 ∨ nI 3 < sort) then -2 else if n < nI 0 ∨ nI 40 < n then -3 else nI 0
theorem nw_1 {row sort n : Int32} (h : row < 0 ∨ nI 4 ≤ row) : -2 = numWhy row sort n := by simp [numWhy, h]
theorem nw_2 {row sort n : Int32} (h : sort < nI 0 ∨ nI 3 < sort) : -2 = numWhy row sort n := by simp [numWhy, h]
theorem nw_3 {row sort n : Int32} (h0 : ¬ row < 0) (h1 : ¬ nI 4 ≤ row) (h2 : ¬ sort < nI 0) (h3 : ¬ nI 3 < sort) (h : n < nI 0 ∨ nI 40 < n) : -3 = numWhy row sort n := by simp only [numWhy]; simp [h0, h1, h2, h3, h]
theorem nw_4 {row sort n : Int32} (h0 : ¬ row < 0) (h1 : ¬ nI 4 ≤ row) (h2 : ¬ sort < nI 0) (h3 : ¬ nI 3 < sort) (h4 : ¬ n < nI 0) (h5 : ¬ nI 40 < n) : nI 0 = numWhy row sort n := by simp only [numWhy]; simp [h0, h1, h2, h3, h4, h5]

/-- what image(i) answers -/
def imgWhy (i : Int32) : Int32 := if i < 0 ∨ nI 2 ≤ i then -2 else nI 0
theorem iw_1 {i : Int32} (h : i < 0 ∨ nI 2 ≤ i) : -2 = imgWhy i := by simp [imgWhy, h]
theorem iw_2 {i : Int32} (h0 : ¬ i < 0) (h1 : ¬ nI 2 ≤ i) : nI 0 = imgWhy i := by simp only [imgWhy]; simp [h0, h1]
/-- what restore(i) answers -/
def resWhy (i a b : Int32) : Int32 := if i < 0 ∨ nI 2 ≤ i then -2 else if i = nI 0 ∧ a = 0 ∨ i = nI 1 ∧ b = 0 then -5 else nI 0

def q_x_count (T : Nat → ClassId) (o : Nat) (wh : Int32) (n0 : Nat) (s0 : Nat) (im : Nat) (iz : Nat) (rw : Nat) (t0 : Nat) (u0 : Nat) (h0 : Nat) (y0 : Nat) (sv : Value) (tf : Nat) (tu : Int32) (tl : Int32) (t1 : Nat) (te : Int32) (tk : Int32) (tr : Int32) (tb : Int32) (nn : Nat) (nm : Int32) (nl : Int32) (no : Int32) (nu : Int32) (n1 : Nat) (n2 : Nat) (n3 : Nat) (n4 : Nat) (n5 : Nat) (n6 : Nat) (n7 : Nat) (n8 : Nat) (n9 : Nat) (n10 : Nat) (nf3 : Nat → Int32) (nf4 : Nat → Int32) (nf5 : Nat → Int32) (nf6 : Nat → Int32) (nf7 : Nat → Int32) : Option Value → va_W → Prop := fun rr ww => (∃ (z : Int32), rr = some (.int z) ∧ ww = [(o, .inr (7, [.ref n0, .ref s0, .ref im, .ref iz, .ref rw, .ref t0, .ref u0, .ref h0, .ref y0, sv])), (t0, .inr (2, [.int (nI tf), .int tu, .int tl, .ref t1, .int te, .int tk, .int tr, .int tb])), (n0, .inr (5, [.int (nI nn), .int nm, .int nl, .int no, .int nu, .ref n1, .ref n2, .ref n3, .ref n4, .ref n5, .ref n6, .ref n7, .ref n8, .ref n9, .ref n10])), (n3, .inl (T 0, 10, .inl nf3)), (n4, .inl (T 0, 10, .inl nf4)), (n5, .inl (T 0, 10, .inl nf5)), (n6, .inl (T 0, 10, .inl nf6)), (n7, .inl (T 0, 10, .inl nf7))])
set_option maxHeartbeats 4000000 in
set_option maxRecDepth 100000 in
theorem x_count (l : Launch) (D : va_G) (T : Nat → ClassId) (o : Nat) (wh : Int32) (n0 : Nat) (s0 : Nat) (im : Nat) (iz : Nat) (rw : Nat) (t0 : Nat) (u0 : Nat) (h0 : Nat) (y0 : Nat) (sv : Value) (tf : Nat) (tu : Int32) (tl : Int32) (t1 : Nat) (te : Int32) (tk : Int32) (tr : Int32) (tb : Int32) (nn : Nat) (nm : Int32) (nl : Int32) (no : Int32) (nu : Int32) (n1 : Nat) (n2 : Nat) (n3 : Nat) (n4 : Nat) (n5 : Nat) (n6 : Nat) (n7 : Nat) (n8 : Nat) (n9 : Nat) (n10 : Nat) (nf3 : Nat → Int32) (nf4 : Nat → Int32) (nf5 : Nat → Int32) (nf6 : Nat → Int32) (nf7 : Nat → Int32) (h_n : nn ≤ 10) : Ct l yX7_count cX7_count 2 (some .int) 2 0 0 D T [.ref o, .int wh] [(o, .inr (7, [.ref n0, .ref s0, .ref im, .ref iz, .ref rw, .ref t0, .ref u0, .ref h0, .ref y0, sv])), (t0, .inr (2, [.int (nI tf), .int tu, .int tl, .ref t1, .int te, .int tk, .int tr, .int tb])), (n0, .inr (5, [.int (nI nn), .int nm, .int nl, .int no, .int nu, .ref n1, .ref n2, .ref n3, .ref n4, .ref n5, .ref n6, .ref n7, .ref n8, .ref n9, .ref n10])), (n3, .inl (T 0, 10, .inl nf3)), (n4, .inl (T 0, 10, .inl nf4)), (n5, .inl (T 0, 10, .inl nf5)), (n6, .inl (T 0, 10, .inl nf6)), (n7, .inl (T 0, 10, .inl nf7))] (q_x_count T o wh n0 s0 im iz rw t0 u0 h0 y0 sv tf tu tl t1 te tk tr tb nn nm nl no nu n1 n2 n3 n4 n5 n6 n7 n8 n9 n10 nf3 nf4 nf5 nf6 nf7) := by
  refine Ct.of (cc := cX7_count) (maxL := 2) (ret := (some .int)) (by decide) (Nat.le_of_ble_eq_true rfl) ?_
  intro p e s m args below meth c A ls hC hnm V hl
  obtain ⟨hx, hb, hr, hml, hown, hts, hlocks⟩ := id hC
  generalize hH : s.heap = H at V ⊢
  clear hH
  have hl : lv_has ls 2 [(0, .ref o), (1, .int wh)] := hl
  generalize hlo : ([] : List Loc) = locs at V ⊢
  clear hlo
  refine lv_iload_n hx hb dX7_count_0 rfl (lv_at hl 1 rfl) ?_
  by_cases c_10 : wh = (nI 0)
  · skip
    refine lv_tableIn (tgt := 52) (off := 51) hx hb dX7_count_1 (by first | decide +kernel | (rw [c_10]; decide +kernel)) (by first | decide +kernel | (rw [c_10]; decide +kernel)) (by first | decide +kernel | (rw [c_10]; decide +kernel)) (by decide) ?_
    refine lv_aload_n hx hb dX7_count_52 rfl (lv_at hl 0 rfl) ?_
    refine g_get hC V (ci := 7) uwX7 0 rfl rfl 0 (by decide) w_249 rfl rfl dX7_count_53 ?_
    refine g_get hC V (ci := 5) uwX5 2 rfl rfl 0 (by decide) w_38 rfl rfl dX7_count_56 ?_
    exact g_iret (Qr := (q_x_count T o wh n0 s0 im iz rw t0 u0 h0 y0 sv tf tu tl t1 te tk tr tb nn nm nl no nu n1 n2 n3 n4 n5 n6 n7 n8 n9 n10 nf3 nf4 nf5 nf6 nf7)) hC V ⟨(Nat.le_of_ble_eq_true rfl), (Nat.le_of_ble_eq_true rfl)⟩ ⟨(nI nn), rfl, rfl⟩ dX7_count_59
  by_cases c_11 : wh = (nI 1)
  · skip
    refine lv_tableIn (tgt := 60) (off := 59) hx hb dX7_count_1 (by first | decide +kernel | (rw [c_11]; decide +kernel)) (by first | decide +kernel | (rw [c_11]; decide +kernel)) (by first | decide +kernel | (rw [c_11]; decide +kernel)) (by decide) ?_
    refine lv_aload_n hx hb dX7_count_60 rfl (lv_at hl 0 rfl) ?_
    refine g_get hC V (ci := 7) uwX7 0 rfl rfl 0 (by decide) w_249 rfl rfl dX7_count_61 ?_
    refine g_get hC V (ci := 5) uwX5 2 rfl rfl 1 (by decide) w_41 rfl rfl dX7_count_64 ?_
    exact g_iret (Qr := (q_x_count T o wh n0 s0 im iz rw t0 u0 h0 y0 sv tf tu tl t1 te tk tr tb nn nm nl no nu n1 n2 n3 n4 n5 n6 n7 n8 n9 n10 nf3 nf4 nf5 nf6 nf7)) hC V ⟨(Nat.le_of_ble_eq_true rfl), (Nat.le_of_ble_eq_true rfl)⟩ ⟨nm, rfl, rfl⟩ dX7_count_67
  by_cases c_12 : wh = (nI 2)
  · skip
    refine lv_tableIn (tgt := 68) (off := 67) hx hb dX7_count_1 (by first | decide +kernel | (rw [c_12]; decide +kernel)) (by first | decide +kernel | (rw [c_12]; decide +kernel)) (by first | decide +kernel | (rw [c_12]; decide +kernel)) (by decide) ?_
    refine lv_aload_n hx hb dX7_count_68 rfl (lv_at hl 0 rfl) ?_
    refine g_get hC V (ci := 7) uwX7 0 rfl rfl 0 (by decide) w_249 rfl rfl dX7_count_69 ?_
    refine g_callVU (nA := 0) hC V hl.1 (s_piecesDone l D T n0 nn nm nl no nu n1 n2 n3 n4 n5 n6 n7 n8 n9 n10 nf6 nf7 (by first | assumption | omega)) w_516 w_517 w_518 w_3 w_519 (by decide +kernel) rfl ⟨(Nat.le_of_ble_eq_true rfl), (Nat.le_of_ble_eq_true rfl)⟩ 2 (ci := 5) rfl rfl [2, 6, 7] rfl rfl (Nat.le_of_ble_eq_true rfl) dX7_count_72 ⟨(Nat.le_of_ble_eq_true rfl), (Nat.le_of_ble_eq_true rfl)⟩ rfl (fun r w1 H locs hQ V => ?_)
    obtain ⟨z_2, rfl, rfl⟩ := hQ
    have V : gW D T A s [(o, .inr (7, [.ref n0, .ref s0, .ref im, .ref iz, .ref rw, .ref t0, .ref u0, .ref h0, .ref y0, sv])), (t0, .inr (2, [.int (nI tf), .int tu, .int tl, .ref t1, .int te, .int tk, .int tr, .int tb])), (n0, .inr (5, [.int (nI nn), .int nm, .int nl, .int no, .int nu, .ref n1, .ref n2, .ref n3, .ref n4, .ref n5, .ref n6, .ref n7, .ref n8, .ref n9, .ref n10])), (n3, .inl (T 0, 10, .inl nf3)), (n4, .inl (T 0, 10, .inl nf4)), (n5, .inl (T 0, 10, .inl nf5)), (n6, .inl (T 0, 10, .inl nf6)), (n7, .inl (T 0, 10, .inl nf7))] H locs := V _ [2, 3, 0] rfl rfl rfl (by decide +kernel) rfl
    show W p l e _ s m args below meth c H locs _ _ _ (F0 m 75 ls [.int z_2])
    exact g_iret (Qr := (q_x_count T o wh n0 s0 im iz rw t0 u0 h0 y0 sv tf tu tl t1 te tk tr tb nn nm nl no nu n1 n2 n3 n4 n5 n6 n7 n8 n9 n10 nf3 nf4 nf5 nf6 nf7)) hC V ⟨(Nat.le_of_ble_eq_true rfl), (Nat.le_of_ble_eq_true rfl)⟩ ⟨z_2, rfl, rfl⟩ dX7_count_75
  by_cases c_13 : wh = (nI 3)
  · skip
    refine lv_tableIn (tgt := 76) (off := 75) hx hb dX7_count_1 (by first | decide +kernel | (rw [c_13]; decide +kernel)) (by first | decide +kernel | (rw [c_13]; decide +kernel)) (by first | decide +kernel | (rw [c_13]; decide +kernel)) (by decide) ?_
    refine lv_aload_n hx hb dX7_count_76 rfl (lv_at hl 0 rfl) ?_
    refine g_get hC V (ci := 7) uwX7 0 rfl rfl 0 (by decide) w_249 rfl rfl dX7_count_77 ?_
    refine g_get hC V (ci := 5) uwX5 2 rfl rfl 4 (by decide) w_50 rfl rfl dX7_count_80 ?_
    exact g_iret (Qr := (q_x_count T o wh n0 s0 im iz rw t0 u0 h0 y0 sv tf tu tl t1 te tk tr tb nn nm nl no nu n1 n2 n3 n4 n5 n6 n7 n8 n9 n10 nf3 nf4 nf5 nf6 nf7)) hC V ⟨(Nat.le_of_ble_eq_true rfl), (Nat.le_of_ble_eq_true rfl)⟩ ⟨nu, rfl, rfl⟩ dX7_count_83
  by_cases c_14 : wh = (nI 4)
  · skip
    refine lv_tableIn (tgt := 84) (off := 83) hx hb dX7_count_1 (by first | decide +kernel | (rw [c_14]; decide +kernel)) (by first | decide +kernel | (rw [c_14]; decide +kernel)) (by first | decide +kernel | (rw [c_14]; decide +kernel)) (by decide) ?_
    refine lv_aload_n hx hb dX7_count_84 rfl (lv_at hl 0 rfl) ?_
    refine g_get hC V (ci := 7) uwX7 0 rfl rfl 0 (by decide) w_249 rfl rfl dX7_count_85 ?_
    refine g_callVU (nA := 0) hC V hl.1 (s_workable l D T n0 nn nm nl no nu n1 n2 n3 n4 n5 n6 n7 n8 n9 n10 nf3 nf4 nf5 (by first | assumption | omega)) w_898 w_899 w_900 w_3 w_901 (by decide +kernel) rfl ⟨(Nat.le_of_ble_eq_true rfl), (Nat.le_of_ble_eq_true rfl)⟩ 2 (ci := 5) rfl rfl [2, 3, 4, 5] rfl rfl (Nat.le_of_ble_eq_true rfl) dX7_count_88 ⟨(Nat.le_of_ble_eq_true rfl), (Nat.le_of_ble_eq_true rfl)⟩ rfl (fun r w1 H locs hQ V => ?_)
    obtain ⟨z_3, rfl, rfl⟩ := hQ
    have V : gW D T A s [(o, .inr (7, [.ref n0, .ref s0, .ref im, .ref iz, .ref rw, .ref t0, .ref u0, .ref h0, .ref y0, sv])), (t0, .inr (2, [.int (nI tf), .int tu, .int tl, .ref t1, .int te, .int tk, .int tr, .int tb])), (n0, .inr (5, [.int (nI nn), .int nm, .int nl, .int no, .int nu, .ref n1, .ref n2, .ref n3, .ref n4, .ref n5, .ref n6, .ref n7, .ref n8, .ref n9, .ref n10])), (n3, .inl (T 0, 10, .inl nf3)), (n4, .inl (T 0, 10, .inl nf4)), (n5, .inl (T 0, 10, .inl nf5)), (n6, .inl (T 0, 10, .inl nf6)), (n7, .inl (T 0, 10, .inl nf7))] H locs := V _ [2, 0, 0, 0] rfl rfl rfl (by decide +kernel) rfl
    show W p l e _ s m args below meth c H locs _ _ _ (F0 m 91 ls [.int z_3])
    exact g_iret (Qr := (q_x_count T o wh n0 s0 im iz rw t0 u0 h0 y0 sv tf tu tl t1 te tk tr tb nn nm nl no nu n1 n2 n3 n4 n5 n6 n7 n8 n9 n10 nf3 nf4 nf5 nf6 nf7)) hC V ⟨(Nat.le_of_ble_eq_true rfl), (Nat.le_of_ble_eq_true rfl)⟩ ⟨z_3, rfl, rfl⟩ dX7_count_91
  by_cases c_15 : wh = (nI 5)
  · skip
    refine lv_tableIn (tgt := 92) (off := 91) hx hb dX7_count_1 (by first | decide +kernel | (rw [c_15]; decide +kernel)) (by first | decide +kernel | (rw [c_15]; decide +kernel)) (by first | decide +kernel | (rw [c_15]; decide +kernel)) (by decide) ?_
    refine lv_aload_n hx hb dX7_count_92 rfl (lv_at hl 0 rfl) ?_
    refine g_get hC V (ci := 7) uwX7 0 rfl rfl 0 (by decide) w_249 rfl rfl dX7_count_93 ?_
    refine g_callVU (nA := 0) hC V hl.1 (s_heatTogether l D T n0 nn nm nl no nu n1 n2 n3 n4 n5 n6 n7 n8 n9 n10 nf3 (by first | assumption | omega)) w_902 w_903 w_904 w_3 w_905 (by decide +kernel) rfl ⟨(Nat.le_of_ble_eq_true rfl), (Nat.le_of_ble_eq_true rfl)⟩ 2 (ci := 5) rfl rfl [2, 3] rfl rfl (Nat.le_of_ble_eq_true rfl) dX7_count_96 ⟨(Nat.le_of_ble_eq_true rfl), (Nat.le_of_ble_eq_true rfl)⟩ rfl (fun r w1 H locs hQ V => ?_)
    obtain ⟨z_4, rfl, rfl⟩ := hQ
    have V : gW D T A s [(o, .inr (7, [.ref n0, .ref s0, .ref im, .ref iz, .ref rw, .ref t0, .ref u0, .ref h0, .ref y0, sv])), (t0, .inr (2, [.int (nI tf), .int tu, .int tl, .ref t1, .int te, .int tk, .int tr, .int tb])), (n0, .inr (5, [.int (nI nn), .int nm, .int nl, .int no, .int nu, .ref n1, .ref n2, .ref n3, .ref n4, .ref n5, .ref n6, .ref n7, .ref n8, .ref n9, .ref n10])), (n3, .inl (T 0, 10, .inl nf3)), (n4, .inl (T 0, 10, .inl nf4)), (n5, .inl (T 0, 10, .inl nf5)), (n6, .inl (T 0, 10, .inl nf6)), (n7, .inl (T 0, 10, .inl nf7))] H locs := V _ [2, 0] rfl rfl rfl (by decide +kernel) rfl
    show W p l e _ s m args below meth c H locs _ _ _ (F0 m 99 ls [.int z_4])
    exact g_iret (Qr := (q_x_count T o wh n0 s0 im iz rw t0 u0 h0 y0 sv tf tu tl t1 te tk tr tb nn nm nl no nu n1 n2 n3 n4 n5 n6 n7 n8 n9 n10 nf3 nf4 nf5 nf6 nf7)) hC V ⟨(Nat.le_of_ble_eq_true rfl), (Nat.le_of_ble_eq_true rfl)⟩ ⟨z_4, rfl, rfl⟩ dX7_count_99
  by_cases c_16 : wh = (nI 6)
  · skip
    refine lv_tableIn (tgt := 100) (off := 99) hx hb dX7_count_1 (by first | decide +kernel | (rw [c_16]; decide +kernel)) (by first | decide +kernel | (rw [c_16]; decide +kernel)) (by first | decide +kernel | (rw [c_16]; decide +kernel)) (by decide) ?_
    refine lv_aload_n hx hb dX7_count_100 rfl (lv_at hl 0 rfl) ?_
    refine g_get hC V (ci := 7) uwX7 0 rfl rfl 5 (by decide) w_254 rfl rfl dX7_count_101 ?_
    refine g_get hC V (ci := 2) uwX2 1 rfl rfl 0 (by decide) w_128 rfl rfl dX7_count_104 ?_
    exact g_iret (Qr := (q_x_count T o wh n0 s0 im iz rw t0 u0 h0 y0 sv tf tu tl t1 te tk tr tb nn nm nl no nu n1 n2 n3 n4 n5 n6 n7 n8 n9 n10 nf3 nf4 nf5 nf6 nf7)) hC V ⟨(Nat.le_of_ble_eq_true rfl), (Nat.le_of_ble_eq_true rfl)⟩ ⟨(nI tf), rfl, rfl⟩ dX7_count_107
  by_cases c_17 : wh = (nI 7)
  · skip
    refine lv_tableIn (tgt := 108) (off := 107) hx hb dX7_count_1 (by first | decide +kernel | (rw [c_17]; decide +kernel)) (by first | decide +kernel | (rw [c_17]; decide +kernel)) (by first | decide +kernel | (rw [c_17]; decide +kernel)) (by decide) ?_
    refine lv_aload_n hx hb dX7_count_108 rfl (lv_at hl 0 rfl) ?_
    refine g_get hC V (ci := 7) uwX7 0 rfl rfl 0 (by decide) w_249 rfl rfl dX7_count_109 ?_
    refine g_get hC V (ci := 5) uwX5 2 rfl rfl 2 (by decide) w_43 rfl rfl dX7_count_112 ?_
    exact g_iret (Qr := (q_x_count T o wh n0 s0 im iz rw t0 u0 h0 y0 sv tf tu tl t1 te tk tr tb nn nm nl no nu n1 n2 n3 n4 n5 n6 n7 n8 n9 n10 nf3 nf4 nf5 nf6 nf7)) hC V ⟨(Nat.le_of_ble_eq_true rfl), (Nat.le_of_ble_eq_true rfl)⟩ ⟨nl, rfl, rfl⟩ dX7_count_115
  by_cases c_18 : wh = (nI 8)
  · skip
    refine lv_tableIn (tgt := 116) (off := 115) hx hb dX7_count_1 (by first | decide +kernel | (rw [c_18]; decide +kernel)) (by first | decide +kernel | (rw [c_18]; decide +kernel)) (by first | decide +kernel | (rw [c_18]; decide +kernel)) (by decide) ?_
    refine lv_aload_n hx hb dX7_count_116 rfl (lv_at hl 0 rfl) ?_
    refine g_get hC V (ci := 7) uwX7 0 rfl rfl 0 (by decide) w_249 rfl rfl dX7_count_117 ?_
    refine g_get hC V (ci := 5) uwX5 2 rfl rfl 3 (by decide) w_48 rfl rfl dX7_count_120 ?_
    exact g_iret (Qr := (q_x_count T o wh n0 s0 im iz rw t0 u0 h0 y0 sv tf tu tl t1 te tk tr tb nn nm nl no nu n1 n2 n3 n4 n5 n6 n7 n8 n9 n10 nf3 nf4 nf5 nf6 nf7)) hC V ⟨(Nat.le_of_ble_eq_true rfl), (Nat.le_of_ble_eq_true rfl)⟩ ⟨no, rfl, rfl⟩ dX7_count_123
  refine lv_tableOut (tgt := 124) hx hb dX7_count_1 (g_out 0 8 (fun k h1 h2 => ?_)) (by decide) ?_
  · intro h
    have h3 : k = 0 ∨ k = 1 ∨ k = 2 ∨ k = 3 ∨ k = 4 ∨ k = 5 ∨ k = 6 ∨ k = 7 ∨ k = 8 := by omega
    rcases h3 with rfl | rfl | rfl | rfl | rfl | rfl | rfl | rfl | rfl
    · exact c_10 (g_out2 h (by decide +kernel))
    · exact c_11 (g_out2 h (by decide +kernel))
    · exact c_12 (g_out2 h (by decide +kernel))
    · exact c_13 (g_out2 h (by decide +kernel))
    · exact c_14 (g_out2 h (by decide +kernel))
    · exact c_15 (g_out2 h (by decide +kernel))
    · exact c_16 (g_out2 h (by decide +kernel))
    · exact c_17 (g_out2 h (by decide +kernel))
    · exact c_18 (g_out2 h (by decide +kernel))
  refine lv_iconst (v := (-1)) hx hb dX7_count_124 (by decide +kernel) ?_
  exact g_iret (Qr := (q_x_count T o wh n0 s0 im iz rw t0 u0 h0 y0 sv tf tu tl t1 te tk tr tb nn nm nl no nu n1 n2 n3 n4 n5 n6 n7 n8 n9 n10 nf3 nf4 nf5 nf6 nf7)) hC V ⟨(Nat.le_of_ble_eq_true rfl), (Nat.le_of_ble_eq_true rfl)⟩ ⟨(-1), rfl, rfl⟩ dX7_count_125

/-- what feed answers, with t bytes on the tape -/
def feedN (t : Nat) : Nat := if 880 < t then t else t + 20
def feedA (t : Nat) : Int32 := if 880 < t then -5 else nI (t + 20)
theorem fd_1 {t : Nat} (h : 880 < t) : -5 = feedA t := by simp [feedA, h]
theorem fd_2 {t k : Nat} (h : ¬ 880 < t) (e : k = t + 20) : nI k = feedA t := by simp [feedA, h, e]
theorem fd_3 {t : Nat} (h : 880 < t) : t = feedN t := by simp [feedN, h]
theorem fd_4 {t k : Nat} (h : ¬ 880 < t) (e : k = t + 20) : k = feedN t := by simp [feedN, h, e]

/-- how many bytes are left on the tape behind street(n) -/
def strN (n : Int32) (t : Nat) : Nat := if n < nI 0 ∨ nI t < n then t else 0
def q_x_soonestB (T : Nat → ClassId) (o : Nat) (n0 : Nat) (s0 : Nat) (im : Nat) (iz : Nat) (rw : Nat) (t0 : Nat) (u0 : Nat) (h0 : Nat) (y0 : Nat) (e0 : Nat) (nn : Nat) (nm : Int32) (nl : Int32) (no : Int32) (nu : Int32) (n1 : Nat) (n2 : Nat) (n3 : Nat) (n4 : Nat) (n5 : Nat) (n6 : Nat) (n7 : Nat) (n8 : Nat) (n9 : Nat) (n10 : Nat) (nf1 : Nat → Int32) (nf2 : Nat → Int32) (nf3 : Nat → Int32) (nf4 : Nat → Int32) (nf5 : Nat → Int32) (nf6 : Nat → Int32) (nf7 : Nat → Int32) (nf9 : Nat → Int32) (e1 : Nat) (e2 : Nat) (em : Int32) (e3 : Nat) (e4 : Nat) (e5 : Nat) (e6 : Nat) (ea : Nat → Int64) (eb : Nat → Int32) (ec : Nat → Int32) (ed : Nat → Int32) (ee : Nat → Int32) (ef : Nat → Int32) : Option Value → va_W → Prop := fun rr ww => (∃ (z : Int32) (em2 : Int32) (g1 : Nat → Int64) (g2 : Nat → Int32) (gc : Nat → Int32) (gd : Nat → Int32) (ge : Nat → Int32) (gf : Nat → Int32), rr = some (.int z) ∧ ww = [(o, .inr (7, [.ref n0, .ref s0, .ref im, .ref iz, .ref rw, .ref t0, .ref u0, .ref h0, .ref y0, .ref e0])), (n0, .inr (5, [.int (nI nn), .int nm, .int nl, .int no, .int nu, .ref n1, .ref n2, .ref n3, .ref n4, .ref n5, .ref n6, .ref n7, .ref n8, .ref n9, .ref n10])), (n1, .inl (T 0, 10, .inl nf1)), (n2, .inl (T 0, 10, .inl nf2)), (n3, .inl (T 0, 10, .inl nf3)), (n4, .inl (T 0, 10, .inl nf4)), (n5, .inl (T 0, 10, .inl nf5)), (n6, .inl (T 0, 10, .inl nf6)), (n7, .inl (T 0, 10, .inl nf7)), (n9, .inl (T 0, 10, .inl nf9)), (e0, .inr (4, [.ref e1, .ref e2, .int em2, .ref e3, .ref e4, .ref e5, .ref e6])), (e1, .inl (T 1, 3001, .inr (.inl g1))), (e2, .inl (T 0, 8192, .inl g2)), (e3, .inl (T 0, 3, .inl gc)), (e4, .inl (T 0, 3, .inl gd)), (e5, .inl (T 0, 3, .inl ge)), (e6, .inl (T 0, 24, .inl gf))])
set_option maxHeartbeats 4000000 in
set_option maxRecDepth 100000 in
theorem x_soonestB (l : Launch) (D : va_G) (T : Nat → ClassId) (o : Nat) (n0 : Nat) (s0 : Nat) (im : Nat) (iz : Nat) (rw : Nat) (t0 : Nat) (u0 : Nat) (h0 : Nat) (y0 : Nat) (e0 : Nat) (nn : Nat) (nm : Int32) (nl : Int32) (no : Int32) (nu : Int32) (n1 : Nat) (n2 : Nat) (n3 : Nat) (n4 : Nat) (n5 : Nat) (n6 : Nat) (n7 : Nat) (n8 : Nat) (n9 : Nat) (n10 : Nat) (nf1 : Nat → Int32) (nf2 : Nat → Int32) (nf3 : Nat → Int32) (nf4 : Nat → Int32) (nf5 : Nat → Int32) (nf6 : Nat → Int32) (nf7 : Nat → Int32) (nf9 : Nat → Int32) (e1 : Nat) (e2 : Nat) (em : Int32) (e3 : Nat) (e4 : Nat) (e5 : Nat) (e6 : Nat) (ea : Nat → Int64) (eb : Nat → Int32) (ec : Nat → Int32) (ed : Nat → Int32) (ee : Nat → Int32) (ef : Nat → Int32) (h_n : nn ≤ 10) : Ct l yX7_soonest cX7_soonest 1 (some .int) 5 0 0 D T [.ref o] [(o, .inr (7, [.ref n0, .ref s0, .ref im, .ref iz, .ref rw, .ref t0, .ref u0, .ref h0, .ref y0, .ref e0])), (n0, .inr (5, [.int (nI nn), .int nm, .int nl, .int no, .int nu, .ref n1, .ref n2, .ref n3, .ref n4, .ref n5, .ref n6, .ref n7, .ref n8, .ref n9, .ref n10])), (n1, .inl (T 0, 10, .inl nf1)), (n2, .inl (T 0, 10, .inl nf2)), (n3, .inl (T 0, 10, .inl nf3)), (n4, .inl (T 0, 10, .inl nf4)), (n5, .inl (T 0, 10, .inl nf5)), (n6, .inl (T 0, 10, .inl nf6)), (n7, .inl (T 0, 10, .inl nf7)), (n9, .inl (T 0, 10, .inl nf9)), (e0, .inr (4, [.ref e1, .ref e2, .int em, .ref e3, .ref e4, .ref e5, .ref e6])), (e1, .inl (T 1, 3001, .inr (.inl ea))), (e2, .inl (T 0, 8192, .inl eb)), (e3, .inl (T 0, 3, .inl ec)), (e4, .inl (T 0, 3, .inl ed)), (e5, .inl (T 0, 3, .inl ee)), (e6, .inl (T 0, 24, .inl ef))] (q_x_soonestB T o n0 s0 im iz rw t0 u0 h0 y0 e0 nn nm nl no nu n1 n2 n3 n4 n5 n6 n7 n8 n9 n10 nf1 nf2 nf3 nf4 nf5 nf6 nf7 nf9 e1 e2 em e3 e4 e5 e6 ea eb ec ed ee ef) := by
  refine Ct.of (cc := cX7_soonest) (maxL := 1) (ret := (some .int)) (by decide) (Nat.le_of_ble_eq_true rfl) ?_
  intro p e s m args below meth c A ls hC hnm V hl
  obtain ⟨hx, hb, hr, hml, hown, hts, hlocks⟩ := id hC
  generalize hH : s.heap = H at V ⊢
  clear hH
  have hl : lv_has ls 1 [(0, .ref o)] := hl
  generalize hlo : ([] : List Loc) = locs at V ⊢
  clear hlo
  refine lv_aload_n hx hb dX7_soonest_0 rfl (lv_at hl 0 rfl) ?_
  refine g_get hC V (ci := 7) uwX7 0 rfl rfl 0 (by decide) w_249 rfl rfl dX7_soonest_1 ?_
  refine g_get hC V (ci := 5) uwX5 1 rfl rfl 0 (by decide) w_38 rfl rfl dX7_soonest_4 ?_
  refine lv_iconst (v := (nI 3)) hx hb dX7_soonest_7 (by decide +kernel) ?_
  refine lv_icmp_le (tgt := 14) hx hb dX7_soonest_8 (by decide) (fun c_1 => ?_) (fun c_1 => ?_)
  · skip
    have c_1 := b_le (by omega) (by omega) c_1
    refine lv_aload_n hx hb dX7_soonest_14 rfl (lv_at hl 0 rfl) ?_
    refine g_get hC V (ci := 7) uwX7 0 rfl rfl 0 (by decide) w_249 rfl rfl dX7_soonest_15 ?_
    refine g_callVU (nA := 0) hC V hl.1 (s_piecesDone l D T n0 nn nm nl no nu n1 n2 n3 n4 n5 n6 n7 n8 n9 n10 nf6 nf7 (by first | assumption | omega)) w_516 w_517 w_518 w_3 w_519 (by decide +kernel) rfl ⟨(Nat.le_of_ble_eq_true rfl), (Nat.le_of_ble_eq_true rfl)⟩ 1 (ci := 5) rfl rfl [1, 7, 8] rfl rfl (Nat.le_of_ble_eq_true rfl) dX7_soonest_18 ⟨(Nat.le_of_ble_eq_true rfl), (Nat.le_of_ble_eq_true rfl)⟩ rfl (fun r w1 H locs hQ V => ?_)
    obtain ⟨z_2, rfl, rfl⟩ := hQ
    have V : gW D T A s [(o, .inr (7, [.ref n0, .ref s0, .ref im, .ref iz, .ref rw, .ref t0, .ref u0, .ref h0, .ref y0, .ref e0])), (n0, .inr (5, [.int (nI nn), .int nm, .int nl, .int no, .int nu, .ref n1, .ref n2, .ref n3, .ref n4, .ref n5, .ref n6, .ref n7, .ref n8, .ref n9, .ref n10])), (n1, .inl (T 0, 10, .inl nf1)), (n2, .inl (T 0, 10, .inl nf2)), (n3, .inl (T 0, 10, .inl nf3)), (n4, .inl (T 0, 10, .inl nf4)), (n5, .inl (T 0, 10, .inl nf5)), (n6, .inl (T 0, 10, .inl nf6)), (n7, .inl (T 0, 10, .inl nf7)), (n9, .inl (T 0, 10, .inl nf9)), (e0, .inr (4, [.ref e1, .ref e2, .int em, .ref e3, .ref e4, .ref e5, .ref e6])), (e1, .inl (T 1, 3001, .inr (.inl ea))), (e2, .inl (T 0, 8192, .inl eb)), (e3, .inl (T 0, 3, .inl ec)), (e4, .inl (T 0, 3, .inl ed)), (e5, .inl (T 0, 3, .inl ee)), (e6, .inl (T 0, 24, .inl ef))] H locs := V _ [1, 5, 0] rfl rfl rfl (by decide +kernel) rfl
    show W p l e _ s m args below meth c H locs _ _ _ (F0 m 21 ls [.int z_2])
    refine lv_aload_n hx hb dX7_soonest_21 rfl (lv_at hl 0 rfl) ?_
    refine g_get hC V (ci := 7) uwX7 0 rfl rfl 0 (by decide) w_249 rfl rfl dX7_soonest_22 ?_
    refine g_get hC V (ci := 5) uwX5 1 rfl rfl 0 (by decide) w_38 rfl rfl dX7_soonest_25 ?_
    refine lv_icmp_ne (tgt := 33) hx hb dX7_soonest_28 (by decide) (fun c_3 => ?_) (fun c_3 => ?_)
    · skip
      refine lv_aload_n hx hb dX7_soonest_33 rfl (lv_at hl 0 rfl) ?_
      refine g_get hC V (ci := 7) uwX7 0 rfl rfl 9 (by decide) w_258 rfl rfl dX7_soonest_34 ?_
      refine lv_ifnonnull (tgt := 51) hx hb dX7_soonest_37 (by decide) ?_
      refine lv_aload_n hx hb dX7_soonest_51 rfl (lv_at hl 0 rfl) ?_
      refine g_get hC V (ci := 7) uwX7 0 rfl rfl 9 (by decide) w_258 rfl rfl dX7_soonest_52 ?_
      refine lv_aload_n hx hb dX7_soonest_55 rfl (lv_at hl 0 rfl) ?_
      refine g_get hC V (ci := 7) uwX7 0 rfl rfl 0 (by decide) w_249 rfl rfl dX7_soonest_56 ?_
      refine g_callVU (nA := 1) hC V hl.1 (e_minutes l D T e0 n0 e1 e2 em e3 e4 e5 e6 ea eb ec ed ee ef nn nm nl no nu n1 n2 n3 n4 n5 n6 n7 n8 n9 n10 nf1 nf2 nf3 nf4 nf5 nf6 nf7 nf9 (by first | assumption | omega)) w_735 w_736 w_737 w_18 w_738 (by decide +kernel) rfl ⟨(Nat.le_of_ble_eq_true rfl), (Nat.le_of_ble_eq_true rfl)⟩ 10 (ci := 4) rfl rfl [10, 11, 12, 13, 14, 15, 16, 1, 2, 3, 4, 5, 6, 7, 8, 9] rfl rfl (Nat.le_of_ble_eq_true rfl) dX7_soonest_59 ⟨(Nat.le_of_ble_eq_true rfl), (Nat.le_of_ble_eq_true rfl)⟩ rfl (fun r w1 H locs hQ V => ?_)
      obtain ⟨z_4, em2_5, g1_6, g2_7, gc_8, gd_9, ge_10, gf_11, rfl, rfl, f_12⟩ := hQ
      have V : gW D T A s [(o, .inr (7, [.ref n0, .ref s0, .ref im, .ref iz, .ref rw, .ref t0, .ref u0, .ref h0, .ref y0, .ref e0])), (n0, .inr (5, [.int (nI nn), .int nm, .int nl, .int no, .int nu, .ref n1, .ref n2, .ref n3, .ref n4, .ref n5, .ref n6, .ref n7, .ref n8, .ref n9, .ref n10])), (n1, .inl (T 0, 10, .inl nf1)), (n2, .inl (T 0, 10, .inl nf2)), (n3, .inl (T 0, 10, .inl nf3)), (n4, .inl (T 0, 10, .inl nf4)), (n5, .inl (T 0, 10, .inl nf5)), (n6, .inl (T 0, 10, .inl nf6)), (n7, .inl (T 0, 10, .inl nf7)), (n9, .inl (T 0, 10, .inl nf9)), (e0, .inr (4, [.ref e1, .ref e2, .int (nI em2_5), .ref e3, .ref e4, .ref e5, .ref e6])), (e1, .inl (T 1, 3001, .inr (.inl g1_6))), (e2, .inl (T 0, 8192, .inl g2_7)), (e3, .inl (T 0, 3, .inl gc_8)), (e4, .inl (T 0, 3, .inl gd_9)), (e5, .inl (T 0, 3, .inl ge_10)), (e6, .inl (T 0, 24, .inl gf_11))] H locs := V _ [1, 0, 0, 0, 0, 0, 0, 0, 0, 0, 0, 0, 0, 0, 0, 0] rfl rfl rfl (by decide +kernel) rfl
      show W p l e _ s m args below meth c H locs _ _ _ (F0 m 62 ls [.int z_4])
      exact g_iret (Qr := (q_x_soonestB T o n0 s0 im iz rw t0 u0 h0 y0 e0 nn nm nl no nu n1 n2 n3 n4 n5 n6 n7 n8 n9 n10 nf1 nf2 nf3 nf4 nf5 nf6 nf7 nf9 e1 e2 em e3 e4 e5 e6 ea eb ec ed ee ef)) hC V ⟨(Nat.le_of_ble_eq_true rfl), (Nat.le_of_ble_eq_true rfl)⟩ ⟨z_4, (nI em2_5), g1_6, g2_7, gc_8, gd_9, ge_10, gf_11, rfl, rfl⟩ dX7_soonest_62
    · skip
      refine lv_iconst (v := (nI 0)) hx hb dX7_soonest_31 (by decide +kernel) ?_
      exact g_iret (Qr := (q_x_soonestB T o n0 s0 im iz rw t0 u0 h0 y0 e0 nn nm nl no nu n1 n2 n3 n4 n5 n6 n7 n8 n9 n10 nf1 nf2 nf3 nf4 nf5 nf6 nf7 nf9 e1 e2 em e3 e4 e5 e6 ea eb ec ed ee ef)) hC V ⟨(Nat.le_of_ble_eq_true rfl), (Nat.le_of_ble_eq_true rfl)⟩ ⟨(nI 0), em, ea, eb, ec, ed, ee, ef, rfl, rfl⟩ dX7_soonest_32
  · skip
    have c_1 := b_nle (by omega) (by omega) c_1
    refine lv_bipush (v := (-4)) hx hb dX7_soonest_11 (by decide +kernel) ?_
    exact g_iret (Qr := (q_x_soonestB T o n0 s0 im iz rw t0 u0 h0 y0 e0 nn nm nl no nu n1 n2 n3 n4 n5 n6 n7 n8 n9 n10 nf1 nf2 nf3 nf4 nf5 nf6 nf7 nf9 e1 e2 em e3 e4 e5 e6 ea eb ec ed ee ef)) hC V ⟨(Nat.le_of_ble_eq_true rfl), (Nat.le_of_ble_eq_true rfl)⟩ ⟨(-4), em, ea, eb, ec, ed, ee, ef, rfl, rfl⟩ dX7_soonest_13

def q_e_init (T : Nat → ClassId) (a0 : Nat) : Option Value → va_W → Prop := fun rr ww => (∃ (b1 : Nat) (b2 : Nat) (b3 : Nat) (b4 : Nat) (b5 : Nat) (b6 : Nat), rr = none ∧ ww = [(a0, .inr (4, [.ref b1, .ref b2, .int (nI 0), .ref b3, .ref b4, .ref b5, .ref b6])), (b1, .inl (T 1, 3001, .inr (.inl (fun _ => 0)))), (b2, .inl (T 0, 8192, .inl (fun _ => nI 0))), (b3, .inl (T 0, 3, .inl (fun _ => nI 0))), (b4, .inl (T 0, 3, .inl (fun _ => nI 0))), (b5, .inl (T 0, 3, .inl (fun _ => nI 0))), (b6, .inl (T 0, 24, .inl (fun _ => nI 0)))])
set_option maxHeartbeats 4000000 in
set_option maxRecDepth 100000 in
theorem e_init (l : Launch) (D : va_G) (T : Nat → ClassId) (a0 : Nat) : Ct l yX4_init cX4_init 1 none 1 6 11226 D T [.ref a0] [(a0, .inr (4, [.null, .null, .int (nI 0), .null, .null, .null, .null]))] (q_e_init T a0) := by
  refine Ct.of (cc := cX4_init) (maxL := 1) (ret := none) (by decide) (Nat.le_of_ble_eq_true rfl) ?_
  intro p e s m args below meth c A ls hC hnm V hl
  obtain ⟨hx, hb, hr, hml, hown, hts, hlocks⟩ := id hC
  generalize hH : s.heap = H at V ⊢
  clear hH
  have hl : lv_has ls 1 [(0, .ref a0)] := hl
  generalize hlo : ([] : List Loc) = locs at V ⊢
  clear hlo
  refine lv_aload_n hx hb dX4_init_0 rfl (lv_at hl 0 rfl) ?_
  refine g_objInit hC hl.1 w_712 w_25 w_26 dX4_init_1 (Nat.le_of_ble_eq_true rfl) (Nat.le_of_ble_eq_true rfl) (Nat.le_of_ble_eq_true rfl) ?_
  refine lv_aload_n hx hb dX4_init_4 rfl (lv_at hl 0 rfl) ?_
  refine lv_sipush (v := (nI 3001)) hx hb dX4_init_5 (by decide +kernel) ?_
  refine g_newa hC V (atype := .long) (ty := .long) w_248 rfl 1 rfl (fun _ h => by cases h) (N := 3001) (a0 := (3001, .inr (.inl (fun _ => 0)))) (fun _ => rfl) (by decide) (by decide) (Nat.le_of_ble_eq_true rfl) (Nat.le_of_ble_eq_true rfl) dX4_init_8 (fun q_1 H V => ?_)
  have V : gW D T A s [(a0, .inr (4, [.null, .null, .int (nI 0), .null, .null, .null, .null])), (q_1, .inl (T 1, 3001, .inr (.inl (fun _ => 0))))] H locs := V
  refine g_putF hC hnm V (ci := 4) uwX4 tyX4 tyX4_ok nmX4 0 rfl rfl 0 (by decide) w_713 rfl rfl rfl rfl rfl (Nat.le_of_ble_eq_true rfl) (ws' := [(a0, .inr (4, [.ref q_1, .null, .int (nI 0), .null, .null, .null, .null])), (q_1, .inl (T 1, 3001, .inr (.inl (fun _ => 0))))]) rfl dX4_init_10 (fun H locs V => ?_)
  refine lv_aload_n hx hb dX4_init_13 rfl (lv_at hl 0 rfl) ?_
  refine lv_sipush (v := (nI 8192)) hx hb dX4_init_14 (by decide +kernel) ?_
  refine g_newa hC V (atype := .int) (ty := .int) w_118 rfl 0 rfl (fun _ h => by cases h) (N := 8192) (a0 := (8192, .inl (fun _ => nI 0))) (fun _ => rfl) (by decide) (by decide) (Nat.le_of_ble_eq_true rfl) (Nat.le_of_ble_eq_true rfl) dX4_init_17 (fun q_2 H V => ?_)
  have V : gW D T A s [(a0, .inr (4, [.ref q_1, .null, .int (nI 0), .null, .null, .null, .null])), (q_1, .inl (T 1, 3001, .inr (.inl (fun _ => 0)))), (q_2, .inl (T 0, 8192, .inl (fun _ => nI 0)))] H locs := V
  refine g_putF hC hnm V (ci := 4) uwX4 tyX4 tyX4_ok nmX4 0 rfl rfl 1 (by decide) w_714 rfl rfl rfl rfl rfl (Nat.le_of_ble_eq_true rfl) (ws' := [(a0, .inr (4, [.ref q_1, .ref q_2, .int (nI 0), .null, .null, .null, .null])), (q_1, .inl (T 1, 3001, .inr (.inl (fun _ => 0)))), (q_2, .inl (T 0, 8192, .inl (fun _ => nI 0)))]) rfl dX4_init_19 (fun H locs V => ?_)
  refine lv_aload_n hx hb dX4_init_22 rfl (lv_at hl 0 rfl) ?_
  refine lv_iconst (v := (nI 3)) hx hb dX4_init_23 (by decide +kernel) ?_
  refine g_newa hC V (atype := .int) (ty := .int) w_118 rfl 0 rfl (fun _ h => by cases h) (N := 3) (a0 := (3, .inl (fun _ => nI 0))) (fun _ => rfl) (by decide) (by decide) (Nat.le_of_ble_eq_true rfl) (Nat.le_of_ble_eq_true rfl) dX4_init_24 (fun q_3 H V => ?_)
  have V : gW D T A s [(a0, .inr (4, [.ref q_1, .ref q_2, .int (nI 0), .null, .null, .null, .null])), (q_1, .inl (T 1, 3001, .inr (.inl (fun _ => 0)))), (q_2, .inl (T 0, 8192, .inl (fun _ => nI 0))), (q_3, .inl (T 0, 3, .inl (fun _ => nI 0)))] H locs := V
  refine g_putF hC hnm V (ci := 4) uwX4 tyX4 tyX4_ok nmX4 0 rfl rfl 3 (by decide) w_716 rfl rfl rfl rfl rfl (Nat.le_of_ble_eq_true rfl) (ws' := [(a0, .inr (4, [.ref q_1, .ref q_2, .int (nI 0), .ref q_3, .null, .null, .null])), (q_1, .inl (T 1, 3001, .inr (.inl (fun _ => 0)))), (q_2, .inl (T 0, 8192, .inl (fun _ => nI 0))), (q_3, .inl (T 0, 3, .inl (fun _ => nI 0)))]) rfl dX4_init_26 (fun H locs V => ?_)
  refine lv_aload_n hx hb dX4_init_29 rfl (lv_at hl 0 rfl) ?_
  refine lv_iconst (v := (nI 3)) hx hb dX4_init_30 (by decide +kernel) ?_
  refine g_newa hC V (atype := .int) (ty := .int) w_118 rfl 0 rfl (fun _ h => by cases h) (N := 3) (a0 := (3, .inl (fun _ => nI 0))) (fun _ => rfl) (by decide) (by decide) (Nat.le_of_ble_eq_true rfl) (Nat.le_of_ble_eq_true rfl) dX4_init_31 (fun q_4 H V => ?_)
  have V : gW D T A s [(a0, .inr (4, [.ref q_1, .ref q_2, .int (nI 0), .ref q_3, .null, .null, .null])), (q_1, .inl (T 1, 3001, .inr (.inl (fun _ => 0)))), (q_2, .inl (T 0, 8192, .inl (fun _ => nI 0))), (q_3, .inl (T 0, 3, .inl (fun _ => nI 0))), (q_4, .inl (T 0, 3, .inl (fun _ => nI 0)))] H locs := V
  refine g_putF hC hnm V (ci := 4) uwX4 tyX4 tyX4_ok nmX4 0 rfl rfl 4 (by decide) w_717 rfl rfl rfl rfl rfl (Nat.le_of_ble_eq_true rfl) (ws' := [(a0, .inr (4, [.ref q_1, .ref q_2, .int (nI 0), .ref q_3, .ref q_4, .null, .null])), (q_1, .inl (T 1, 3001, .inr (.inl (fun _ => 0)))), (q_2, .inl (T 0, 8192, .inl (fun _ => nI 0))), (q_3, .inl (T 0, 3, .inl (fun _ => nI 0))), (q_4, .inl (T 0, 3, .inl (fun _ => nI 0)))]) rfl dX4_init_33 (fun H locs V => ?_)
  refine lv_aload_n hx hb dX4_init_36 rfl (lv_at hl 0 rfl) ?_
  refine lv_iconst (v := (nI 3)) hx hb dX4_init_37 (by decide +kernel) ?_
  refine g_newa hC V (atype := .int) (ty := .int) w_118 rfl 0 rfl (fun _ h => by cases h) (N := 3) (a0 := (3, .inl (fun _ => nI 0))) (fun _ => rfl) (by decide) (by decide) (Nat.le_of_ble_eq_true rfl) (Nat.le_of_ble_eq_true rfl) dX4_init_38 (fun q_5 H V => ?_)
  have V : gW D T A s [(a0, .inr (4, [.ref q_1, .ref q_2, .int (nI 0), .ref q_3, .ref q_4, .null, .null])), (q_1, .inl (T 1, 3001, .inr (.inl (fun _ => 0)))), (q_2, .inl (T 0, 8192, .inl (fun _ => nI 0))), (q_3, .inl (T 0, 3, .inl (fun _ => nI 0))), (q_4, .inl (T 0, 3, .inl (fun _ => nI 0))), (q_5, .inl (T 0, 3, .inl (fun _ => nI 0)))] H locs := V
  refine g_putF hC hnm V (ci := 4) uwX4 tyX4 tyX4_ok nmX4 0 rfl rfl 5 (by decide) w_718 rfl rfl rfl rfl rfl (Nat.le_of_ble_eq_true rfl) (ws' := [(a0, .inr (4, [.ref q_1, .ref q_2, .int (nI 0), .ref q_3, .ref q_4, .ref q_5, .null])), (q_1, .inl (T 1, 3001, .inr (.inl (fun _ => 0)))), (q_2, .inl (T 0, 8192, .inl (fun _ => nI 0))), (q_3, .inl (T 0, 3, .inl (fun _ => nI 0))), (q_4, .inl (T 0, 3, .inl (fun _ => nI 0))), (q_5, .inl (T 0, 3, .inl (fun _ => nI 0)))]) rfl dX4_init_40 (fun H locs V => ?_)
  refine lv_aload_n hx hb dX4_init_43 rfl (lv_at hl 0 rfl) ?_
  refine lv_bipush (v := (nI 24)) hx hb dX4_init_44 (by decide +kernel) ?_
  refine g_newa hC V (atype := .int) (ty := .int) w_118 rfl 0 rfl (fun _ h => by cases h) (N := 24) (a0 := (24, .inl (fun _ => nI 0))) (fun _ => rfl) (by decide) (by decide) (Nat.le_of_ble_eq_true rfl) (Nat.le_of_ble_eq_true rfl) dX4_init_46 (fun q_6 H V => ?_)
  have V : gW D T A s [(a0, .inr (4, [.ref q_1, .ref q_2, .int (nI 0), .ref q_3, .ref q_4, .ref q_5, .null])), (q_1, .inl (T 1, 3001, .inr (.inl (fun _ => 0)))), (q_2, .inl (T 0, 8192, .inl (fun _ => nI 0))), (q_3, .inl (T 0, 3, .inl (fun _ => nI 0))), (q_4, .inl (T 0, 3, .inl (fun _ => nI 0))), (q_5, .inl (T 0, 3, .inl (fun _ => nI 0))), (q_6, .inl (T 0, 24, .inl (fun _ => nI 0)))] H locs := V
  refine g_putF hC hnm V (ci := 4) uwX4 tyX4 tyX4_ok nmX4 0 rfl rfl 6 (by decide) w_719 rfl rfl rfl rfl rfl (Nat.le_of_ble_eq_true rfl) (ws' := [(a0, .inr (4, [.ref q_1, .ref q_2, .int (nI 0), .ref q_3, .ref q_4, .ref q_5, .ref q_6])), (q_1, .inl (T 1, 3001, .inr (.inl (fun _ => 0)))), (q_2, .inl (T 0, 8192, .inl (fun _ => nI 0))), (q_3, .inl (T 0, 3, .inl (fun _ => nI 0))), (q_4, .inl (T 0, 3, .inl (fun _ => nI 0))), (q_5, .inl (T 0, 3, .inl (fun _ => nI 0))), (q_6, .inl (T 0, 24, .inl (fun _ => nI 0)))]) rfl dX4_init_48 (fun H locs V => ?_)
  exact g_vret (Qr := (q_e_init T a0)) hC V ⟨(Nat.le_of_ble_eq_true rfl), (Nat.le_of_ble_eq_true rfl)⟩ ⟨q_1, q_2, q_3, q_4, q_5, q_6, rfl, rfl⟩ dX4_init_51

def q_x_soonestA (T : Nat → ClassId) (o : Nat) (n0 : Nat) (s0 : Nat) (im : Nat) (iz : Nat) (rw : Nat) (t0 : Nat) (u0 : Nat) (h0 : Nat) (y0 : Nat) (nn : Nat) (nm : Int32) (nl : Int32) (no : Int32) (nu : Int32) (n1 : Nat) (n2 : Nat) (n3 : Nat) (n4 : Nat) (n5 : Nat) (n6 : Nat) (n7 : Nat) (n8 : Nat) (n9 : Nat) (n10 : Nat) (nf1 : Nat → Int32) (nf2 : Nat → Int32) (nf3 : Nat → Int32) (nf4 : Nat → Int32) (nf5 : Nat → Int32) (nf6 : Nat → Int32) (nf7 : Nat → Int32) (nf9 : Nat → Int32) : Option Value → va_W → Prop := fun rr ww => (∃ (z : Int32), rr = some (.int z) ∧ ww = [(o, .inr (7, [.ref n0, .ref s0, .ref im, .ref iz, .ref rw, .ref t0, .ref u0, .ref h0, .ref y0, .null])), (n0, .inr (5, [.int (nI nn), .int nm, .int nl, .int no, .int nu, .ref n1, .ref n2, .ref n3, .ref n4, .ref n5, .ref n6, .ref n7, .ref n8, .ref n9, .ref n10])), (n1, .inl (T 0, 10, .inl nf1)), (n2, .inl (T 0, 10, .inl nf2)), (n3, .inl (T 0, 10, .inl nf3)), (n4, .inl (T 0, 10, .inl nf4)), (n5, .inl (T 0, 10, .inl nf5)), (n6, .inl (T 0, 10, .inl nf6)), (n7, .inl (T 0, 10, .inl nf7)), (n9, .inl (T 0, 10, .inl nf9))]) ∨ (∃ (z : Int32) (e0 : Nat) (e1 : Nat) (e2 : Nat) (e3 : Nat) (e4 : Nat) (e5 : Nat) (e6 : Nat) (em2 : Int32) (g1 : Nat → Int64) (g2 : Nat → Int32) (gc : Nat → Int32) (gd : Nat → Int32) (ge : Nat → Int32) (gf : Nat → Int32), rr = some (.int z) ∧ ww = [(o, .inr (7, [.ref n0, .ref s0, .ref im, .ref iz, .ref rw, .ref t0, .ref u0, .ref h0, .ref y0, .ref e0])), (n0, .inr (5, [.int (nI nn), .int nm, .int nl, .int no, .int nu, .ref n1, .ref n2, .ref n3, .ref n4, .ref n5, .ref n6, .ref n7, .ref n8, .ref n9, .ref n10])), (n1, .inl (T 0, 10, .inl nf1)), (n2, .inl (T 0, 10, .inl nf2)), (n3, .inl (T 0, 10, .inl nf3)), (n4, .inl (T 0, 10, .inl nf4)), (n5, .inl (T 0, 10, .inl nf5)), (n6, .inl (T 0, 10, .inl nf6)), (n7, .inl (T 0, 10, .inl nf7)), (n9, .inl (T 0, 10, .inl nf9)), (e0, .inr (4, [.ref e1, .ref e2, .int em2, .ref e3, .ref e4, .ref e5, .ref e6])), (e1, .inl (T 1, 3001, .inr (.inl g1))), (e2, .inl (T 0, 8192, .inl g2)), (e3, .inl (T 0, 3, .inl gc)), (e4, .inl (T 0, 3, .inl gd)), (e5, .inl (T 0, 3, .inl ge)), (e6, .inl (T 0, 24, .inl gf))])
set_option maxHeartbeats 4000000 in
set_option maxRecDepth 100000 in
theorem x_soonestA (l : Launch) (D : va_G) (T : Nat → ClassId) (o : Nat) (n0 : Nat) (s0 : Nat) (im : Nat) (iz : Nat) (rw : Nat) (t0 : Nat) (u0 : Nat) (h0 : Nat) (y0 : Nat) (nn : Nat) (nm : Int32) (nl : Int32) (no : Int32) (nu : Int32) (n1 : Nat) (n2 : Nat) (n3 : Nat) (n4 : Nat) (n5 : Nat) (n6 : Nat) (n7 : Nat) (n8 : Nat) (n9 : Nat) (n10 : Nat) (nf1 : Nat → Int32) (nf2 : Nat → Int32) (nf3 : Nat → Int32) (nf4 : Nat → Int32) (nf5 : Nat → Int32) (nf6 : Nat → Int32) (nf7 : Nat → Int32) (nf9 : Nat → Int32) (h_n : nn ≤ 10) : Ct l yX7_soonest cX7_soonest 1 (some .int) 5 7 11233 D T [.ref o] [(o, .inr (7, [.ref n0, .ref s0, .ref im, .ref iz, .ref rw, .ref t0, .ref u0, .ref h0, .ref y0, .null])), (n0, .inr (5, [.int (nI nn), .int nm, .int nl, .int no, .int nu, .ref n1, .ref n2, .ref n3, .ref n4, .ref n5, .ref n6, .ref n7, .ref n8, .ref n9, .ref n10])), (n1, .inl (T 0, 10, .inl nf1)), (n2, .inl (T 0, 10, .inl nf2)), (n3, .inl (T 0, 10, .inl nf3)), (n4, .inl (T 0, 10, .inl nf4)), (n5, .inl (T 0, 10, .inl nf5)), (n6, .inl (T 0, 10, .inl nf6)), (n7, .inl (T 0, 10, .inl nf7)), (n9, .inl (T 0, 10, .inl nf9))] (q_x_soonestA T o n0 s0 im iz rw t0 u0 h0 y0 nn nm nl no nu n1 n2 n3 n4 n5 n6 n7 n8 n9 n10 nf1 nf2 nf3 nf4 nf5 nf6 nf7 nf9) := by
  refine Ct.of (cc := cX7_soonest) (maxL := 1) (ret := (some .int)) (by decide) (Nat.le_of_ble_eq_true rfl) ?_
  intro p e s m args below meth c A ls hC hnm V hl
  obtain ⟨hx, hb, hr, hml, hown, hts, hlocks⟩ := id hC
  generalize hH : s.heap = H at V ⊢
  clear hH
  have hl : lv_has ls 1 [(0, .ref o)] := hl
  generalize hlo : ([] : List Loc) = locs at V ⊢
  clear hlo
  refine lv_aload_n hx hb dX7_soonest_0 rfl (lv_at hl 0 rfl) ?_
  refine g_get hC V (ci := 7) uwX7 0 rfl rfl 0 (by decide) w_249 rfl rfl dX7_soonest_1 ?_
  refine g_get hC V (ci := 5) uwX5 1 rfl rfl 0 (by decide) w_38 rfl rfl dX7_soonest_4 ?_
  refine lv_iconst (v := (nI 3)) hx hb dX7_soonest_7 (by decide +kernel) ?_
  refine lv_icmp_le (tgt := 14) hx hb dX7_soonest_8 (by decide) (fun c_1 => ?_) (fun c_1 => ?_)
  · skip
    have c_1 := b_le (by omega) (by omega) c_1
    refine lv_aload_n hx hb dX7_soonest_14 rfl (lv_at hl 0 rfl) ?_
    refine g_get hC V (ci := 7) uwX7 0 rfl rfl 0 (by decide) w_249 rfl rfl dX7_soonest_15 ?_
    refine g_callVU (nA := 0) hC V hl.1 (s_piecesDone l D T n0 nn nm nl no nu n1 n2 n3 n4 n5 n6 n7 n8 n9 n10 nf6 nf7 (by first | assumption | omega)) w_516 w_517 w_518 w_3 w_519 (by decide +kernel) rfl ⟨(Nat.le_of_ble_eq_true rfl), (Nat.le_of_ble_eq_true rfl)⟩ 1 (ci := 5) rfl rfl [1, 7, 8] rfl rfl (Nat.le_of_ble_eq_true rfl) dX7_soonest_18 ⟨(Nat.le_of_ble_eq_true rfl), (Nat.le_of_ble_eq_true rfl)⟩ rfl (fun r w1 H locs hQ V => ?_)
    obtain ⟨z_2, rfl, rfl⟩ := hQ
    have V : gW D T A s [(o, .inr (7, [.ref n0, .ref s0, .ref im, .ref iz, .ref rw, .ref t0, .ref u0, .ref h0, .ref y0, .null])), (n0, .inr (5, [.int (nI nn), .int nm, .int nl, .int no, .int nu, .ref n1, .ref n2, .ref n3, .ref n4, .ref n5, .ref n6, .ref n7, .ref n8, .ref n9, .ref n10])), (n1, .inl (T 0, 10, .inl nf1)), (n2, .inl (T 0, 10, .inl nf2)), (n3, .inl (T 0, 10, .inl nf3)), (n4, .inl (T 0, 10, .inl nf4)), (n5, .inl (T 0, 10, .inl nf5)), (n6, .inl (T 0, 10, .inl nf6)), (n7, .inl (T 0, 10, .inl nf7)), (n9, .inl (T 0, 10, .inl nf9))] H locs := V _ [1, 5, 0] rfl rfl rfl (by decide +kernel) rfl
    show W p l e _ s m args below meth c H locs _ _ _ (F0 m 21 ls [.int z_2])
    refine lv_aload_n hx hb dX7_soonest_21 rfl (lv_at hl 0 rfl) ?_
    refine g_get hC V (ci := 7) uwX7 0 rfl rfl 0 (by decide) w_249 rfl rfl dX7_soonest_22 ?_
    refine g_get hC V (ci := 5) uwX5 1 rfl rfl 0 (by decide) w_38 rfl rfl dX7_soonest_25 ?_
    refine lv_icmp_ne (tgt := 33) hx hb dX7_soonest_28 (by decide) (fun c_3 => ?_) (fun c_3 => ?_)
    · skip
      refine lv_aload_n hx hb dX7_soonest_33 rfl (lv_at hl 0 rfl) ?_
      refine g_get hC V (ci := 7) uwX7 0 rfl rfl 9 (by decide) w_258 rfl rfl dX7_soonest_34 ?_
      refine lv_ifnonnullN hx hb dX7_soonest_37 ?_
      refine lv_aload_n hx hb dX7_soonest_40 rfl (lv_at hl 0 rfl) ?_
      refine g_new hC V (ci := 4) uwX4 tyX4 tyX4_ok w_707 w_708 w_18 rfl (fs := [.null, .null, .int (nI 0), .null, .null, .null, .null]) (by decide +kernel) (Nat.le_of_ble_eq_true rfl) (Nat.le_of_ble_eq_true rfl) dX7_soonest_41 (fun q_4 H V => ?_)
      have V : gW D T A s [(o, .inr (7, [.ref n0, .ref s0, .ref im, .ref iz, .ref rw, .ref t0, .ref u0, .ref h0, .ref y0, .null])), (n0, .inr (5, [.int (nI nn), .int nm, .int nl, .int no, .int nu, .ref n1, .ref n2, .ref n3, .ref n4, .ref n5, .ref n6, .ref n7, .ref n8, .ref n9, .ref n10])), (n1, .inl (T 0, 10, .inl nf1)), (n2, .inl (T 0, 10, .inl nf2)), (n3, .inl (T 0, 10, .inl nf3)), (n4, .inl (T 0, 10, .inl nf4)), (n5, .inl (T 0, 10, .inl nf5)), (n6, .inl (T 0, 10, .inl nf6)), (n7, .inl (T 0, 10, .inl nf7)), (n9, .inl (T 0, 10, .inl nf9)), (q_4, .inr (4, [.null, .null, .int (nI 0), .null, .null, .null, .null]))] H locs := V
      refine lv_dup hx hb dX7_soonest_44 rfl ?_
      refine g_callIN (wr := [(o, .inr (7, [.ref n0, .ref s0, .ref im, .ref iz, .ref rw, .ref t0, .ref u0, .ref h0, .ref y0, .null])), (n0, .inr (5, [.int (nI nn), .int nm, .int nl, .int no, .int nu, .ref n1, .ref n2, .ref n3, .ref n4, .ref n5, .ref n6, .ref n7, .ref n8, .ref n9, .ref n10])), (n1, .inl (T 0, 10, .inl nf1)), (n2, .inl (T 0, 10, .inl nf2)), (n3, .inl (T 0, 10, .inl nf3)), (n4, .inl (T 0, 10, .inl nf4)), (n5, .inl (T 0, 10, .inl nf5)), (n6, .inl (T 0, 10, .inl nf6)), (n7, .inl (T 0, 10, .inl nf7)), (n9, .inl (T 0, 10, .inl nf9))]) (nA := 0) (host := RX7) hC V hl.1 (e_init l D T q_4) w_711 (List.mem_of_getElem? (i := 0) rfl) w_18 w_710 rfl (by decide +kernel) rfl ⟨(Nat.le_of_ble_eq_true rfl), (Nat.le_of_ble_eq_true rfl)⟩ [10] [0, 1, 2, 3, 4, 5, 6, 7, 8, 9] rfl rfl rfl rfl (by decide) (Nat.le_of_ble_eq_true rfl) dX7_soonest_45 ⟨(Nat.le_of_ble_eq_true rfl), (Nat.le_of_ble_eq_true rfl)⟩ rfl (fun r w1 H locs hQ V => ?_)
      obtain ⟨b1_5, b2_6, b3_7, b4_8, b5_9, b6_10, rfl, rfl⟩ := hQ
      have V : gW D T A s [(o, .inr (7, [.ref n0, .ref s0, .ref im, .ref iz, .ref rw, .ref t0, .ref u0, .ref h0, .ref y0, .null])), (n0, .inr (5, [.int (nI nn), .int nm, .int nl, .int no, .int nu, .ref n1, .ref n2, .ref n3, .ref n4, .ref n5, .ref n6, .ref n7, .ref n8, .ref n9, .ref n10])), (n1, .inl (T 0, 10, .inl nf1)), (n2, .inl (T 0, 10, .inl nf2)), (n3, .inl (T 0, 10, .inl nf3)), (n4, .inl (T 0, 10, .inl nf4)), (n5, .inl (T 0, 10, .inl nf5)), (n6, .inl (T 0, 10, .inl nf6)), (n7, .inl (T 0, 10, .inl nf7)), (n9, .inl (T 0, 10, .inl nf9)), (q_4, .inr (4, [.ref b1_5, .ref b2_6, .int (nI 0), .ref b3_7, .ref b4_8, .ref b5_9, .ref b6_10])), (b1_5, .inl (T 1, 3001, .inr (.inl (fun _ => 0)))), (b2_6, .inl (T 0, 8192, .inl (fun _ => nI 0))), (b3_7, .inl (T 0, 3, .inl (fun _ => nI 0))), (b4_8, .inl (T 0, 3, .inl (fun _ => nI 0))), (b5_9, .inl (T 0, 3, .inl (fun _ => nI 0))), (b6_10, .inl (T 0, 24, .inl (fun _ => nI 0)))] H locs := V
      show W p l e _ s m args below meth c H locs _ _ _ (F0 m 48 ls [.ref q_4, .ref o])
      refine g_put hC V (ci := 7) uwX7 tyX7 tyX7_ok nmX7 0 rfl rfl 9 (by decide) w_258 rfl rfl rfl rfl (Nat.le_of_ble_eq_true rfl) (ws' := [(o, .inr (7, [.ref n0, .ref s0, .ref im, .ref iz, .ref rw, .ref t0, .ref u0, .ref h0, .ref y0, .ref q_4])), (n0, .inr (5, [.int (nI nn), .int nm, .int nl, .int no, .int nu, .ref n1, .ref n2, .ref n3, .ref n4, .ref n5, .ref n6, .ref n7, .ref n8, .ref n9, .ref n10])), (n1, .inl (T 0, 10, .inl nf1)), (n2, .inl (T 0, 10, .inl nf2)), (n3, .inl (T 0, 10, .inl nf3)), (n4, .inl (T 0, 10, .inl nf4)), (n5, .inl (T 0, 10, .inl nf5)), (n6, .inl (T 0, 10, .inl nf6)), (n7, .inl (T 0, 10, .inl nf7)), (n9, .inl (T 0, 10, .inl nf9)), (q_4, .inr (4, [.ref b1_5, .ref b2_6, .int (nI 0), .ref b3_7, .ref b4_8, .ref b5_9, .ref b6_10])), (b1_5, .inl (T 1, 3001, .inr (.inl (fun _ => 0)))), (b2_6, .inl (T 0, 8192, .inl (fun _ => nI 0))), (b3_7, .inl (T 0, 3, .inl (fun _ => nI 0))), (b4_8, .inl (T 0, 3, .inl (fun _ => nI 0))), (b5_9, .inl (T 0, 3, .inl (fun _ => nI 0))), (b6_10, .inl (T 0, 24, .inl (fun _ => nI 0)))]) rfl dX7_soonest_48 (fun H locs V => ?_)
      refine lv_aload_n hx hb dX7_soonest_51 rfl (lv_at hl 0 rfl) ?_
      refine g_get hC V (ci := 7) uwX7 0 rfl rfl 9 (by decide) w_258 rfl rfl dX7_soonest_52 ?_
      refine lv_aload_n hx hb dX7_soonest_55 rfl (lv_at hl 0 rfl) ?_
      refine g_get hC V (ci := 7) uwX7 0 rfl rfl 0 (by decide) w_249 rfl rfl dX7_soonest_56 ?_
      refine g_callVU (nA := 1) hC V hl.1 (e_minutes l D T q_4 n0 b1_5 b2_6 (nI 0) b3_7 b4_8 b5_9 b6_10 (fun _ => 0) (fun _ => nI 0) (fun _ => nI 0) (fun _ => nI 0) (fun _ => nI 0) (fun _ => nI 0) nn nm nl no nu n1 n2 n3 n4 n5 n6 n7 n8 n9 n10 nf1 nf2 nf3 nf4 nf5 nf6 nf7 nf9 (by first | assumption | omega)) w_735 w_736 w_737 w_18 w_738 (by decide +kernel) rfl ⟨(Nat.le_of_ble_eq_true rfl), (Nat.le_of_ble_eq_true rfl)⟩ 10 (ci := 4) rfl rfl [10, 11, 12, 13, 14, 15, 16, 1, 2, 3, 4, 5, 6, 7, 8, 9] rfl rfl (Nat.le_of_ble_eq_true rfl) dX7_soonest_59 ⟨(Nat.le_of_ble_eq_true rfl), (Nat.le_of_ble_eq_true rfl)⟩ rfl (fun r w1 H locs hQ V => ?_)
      obtain ⟨z_11, em2_12, g1_13, g2_14, gc_15, gd_16, ge_17, gf_18, rfl, rfl, f_19⟩ := hQ
      have V : gW D T A s [(o, .inr (7, [.ref n0, .ref s0, .ref im, .ref iz, .ref rw, .ref t0, .ref u0, .ref h0, .ref y0, .ref q_4])), (n0, .inr (5, [.int (nI nn), .int nm, .int nl, .int no, .int nu, .ref n1, .ref n2, .ref n3, .ref n4, .ref n5, .ref n6, .ref n7, .ref n8, .ref n9, .ref n10])), (n1, .inl (T 0, 10, .inl nf1)), (n2, .inl (T 0, 10, .inl nf2)), (n3, .inl (T 0, 10, .inl nf3)), (n4, .inl (T 0, 10, .inl nf4)), (n5, .inl (T 0, 10, .inl nf5)), (n6, .inl (T 0, 10, .inl nf6)), (n7, .inl (T 0, 10, .inl nf7)), (n9, .inl (T 0, 10, .inl nf9)), (q_4, .inr (4, [.ref b1_5, .ref b2_6, .int (nI em2_12), .ref b3_7, .ref b4_8, .ref b5_9, .ref b6_10])), (b1_5, .inl (T 1, 3001, .inr (.inl g1_13))), (b2_6, .inl (T 0, 8192, .inl g2_14)), (b3_7, .inl (T 0, 3, .inl gc_15)), (b4_8, .inl (T 0, 3, .inl gd_16)), (b5_9, .inl (T 0, 3, .inl ge_17)), (b6_10, .inl (T 0, 24, .inl gf_18))] H locs := V _ [1, 0, 0, 0, 0, 0, 0, 0, 0, 0, 0, 0, 0, 0, 0, 0] rfl rfl rfl (by decide +kernel) rfl
      show W p l e _ s m args below meth c H locs _ _ _ (F0 m 62 ls [.int z_11])
      exact g_iret (Qr := (q_x_soonestA T o n0 s0 im iz rw t0 u0 h0 y0 nn nm nl no nu n1 n2 n3 n4 n5 n6 n7 n8 n9 n10 nf1 nf2 nf3 nf4 nf5 nf6 nf7 nf9)) hC V ⟨(Nat.le_of_ble_eq_true rfl), (Nat.le_of_ble_eq_true rfl)⟩ (.inr ⟨z_11, q_4, b1_5, b2_6, b3_7, b4_8, b5_9, b6_10, (nI em2_12), g1_13, g2_14, gc_15, gd_16, ge_17, gf_18, rfl, rfl⟩) dX7_soonest_62
    · skip
      refine lv_iconst (v := (nI 0)) hx hb dX7_soonest_31 (by decide +kernel) ?_
      exact g_iret (Qr := (q_x_soonestA T o n0 s0 im iz rw t0 u0 h0 y0 nn nm nl no nu n1 n2 n3 n4 n5 n6 n7 n8 n9 n10 nf1 nf2 nf3 nf4 nf5 nf6 nf7 nf9)) hC V ⟨(Nat.le_of_ble_eq_true rfl), (Nat.le_of_ble_eq_true rfl)⟩ (.inl ⟨(nI 0), rfl, rfl⟩) dX7_soonest_32
  · skip
    have c_1 := b_nle (by omega) (by omega) c_1
    refine lv_bipush (v := (-4)) hx hb dX7_soonest_11 (by decide +kernel) ?_
    exact g_iret (Qr := (q_x_soonestA T o n0 s0 im iz rw t0 u0 h0 y0 nn nm nl no nu n1 n2 n3 n4 n5 n6 n7 n8 n9 n10 nf1 nf2 nf3 nf4 nf5 nf6 nf7 nf9)) hC V ⟨(Nat.le_of_ble_eq_true rfl), (Nat.le_of_ble_eq_true rfl)⟩ (.inl ⟨(-4), rfl, rfl⟩) dX7_soonest_13
