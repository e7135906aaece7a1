def q_x_bestRound_f (T : Nat → ClassId) (nf6 : Nat → Int32) (nf7 : Nat → Int32) (fa : Nat → Int32) (o : Nat) (le : Int32) (wh : Int32) (n0 : Nat) (s0 : Nat) (im : Nat) (iz : Nat) (rw : Nat) (t0 : Nat) (u0 : Nat) (h0 : Nat) (y0 : Nat) (sv : Value) (h1 : Nat) (qx : Int32) (qy : Int32) (ql : Int32) (h2 : Nat) (h3 : Nat) (qb : Nat → Int32) (qp : Nat → Int32) (qc : Nat → Int32) (nn : Nat) (nm : Int32) (nl : Int32) (no : Int32) (nu : Int32) (n1 : Nat) (n2 : Nat) (n3 : Nat) (n4 : Nat) (n5 : Nat) (n6 : Nat) (n7 : Nat) (n8 : Nat) (n9 : Nat) (n10 : Nat) (nf1 : Nat → Int32) (nf2 : Nat → Int32) (nf3 : Nat → Int32) (nf4 : Nat → Int32) (nf5 : Nat → Int32) (nf9 : Nat → Int32) : Option Value → va_W → Prop := fun rr ww => (∃ (z : Int32) (x1 : Int32) (x2 : Int32) (x3 : Int32) (k1 : Nat → Int32) (k2 : Nat → Int32) (k3 : Nat → Int32), rr = some (.int z) ∧ ww = [(o, .inr (7, [.ref n0, .ref s0, .ref im, .ref iz, .ref rw, .ref t0, .ref u0, .ref h0, .ref y0, sv])), (h0, .inr (3, [.ref h1, .int x1, .int x2, .int x3, .ref h2, .ref h3])), (h1, .inl (T 0, 10, .inl k1)), (h2, .inl (T 0, 10, .inl k2)), (h3, .inl (T 0, 12, .inl k3)), (n0, .inr (5, [.int (nI nn), .int nm, .int nl, .int no, .int nu, .ref n1, .ref n2, .ref n3, .ref n4, .ref n5, .ref n6, .ref n7, .ref n8, .ref n9, .ref n10])), (n1, .inl (T 0, 10, .inl nf1)), (n2, .inl (T 0, 10, .inl nf2)), (n3, .inl (T 0, 10, .inl nf3)), (n4, .inl (T 0, 10, .inl nf4)), (n5, .inl (T 0, 10, .inl nf5)), (n9, .inl (T 0, 10, .inl nf9))] ∧ z = brA nn fa le wh)
set_option maxHeartbeats 4000000 in
set_option maxRecDepth 100000 in
theorem x_bestRound_f (l : Launch) (D : va_G) (T : Nat → ClassId) (nf6 : Nat → Int32) (nf7 : Nat → Int32) (fa : Nat → Int32) (o : Nat) (le : Int32) (wh : Int32) (n0 : Nat) (s0 : Nat) (im : Nat) (iz : Nat) (rw : Nat) (t0 : Nat) (u0 : Nat) (h0 : Nat) (y0 : Nat) (sv : Value) (h1 : Nat) (qx : Int32) (qy : Int32) (ql : Int32) (h2 : Nat) (h3 : Nat) (qb : Nat → Int32) (qp : Nat → Int32) (qc : Nat → Int32) (nn : Nat) (nm : Int32) (nl : Int32) (no : Int32) (nu : Int32) (n1 : Nat) (n2 : Nat) (n3 : Nat) (n4 : Nat) (n5 : Nat) (n6 : Nat) (n7 : Nat) (n8 : Nat) (n9 : Nat) (n10 : Nat) (nf1 : Nat → Int32) (nf2 : Nat → Int32) (nf3 : Nat → Int32) (nf4 : Nat → Int32) (nf5 : Nat → Int32) (nf9 : Nat → Int32) (h_n : nn ≤ 10) (h_sr : SR nn nm nl no nf1 nf2 nf3 nf4 nf5 nf6 nf7 nf9 fa) (h_a : MI nn fa) (h_lb : LB fa) : Ct l yX7_bestRound cX7_bestRound 4 (some .int) 5 0 0 D T [.ref o, .int le, .int wh] [(o, .inr (7, [.ref n0, .ref s0, .ref im, .ref iz, .ref rw, .ref t0, .ref u0, .ref h0, .ref y0, sv])), (h0, .inr (3, [.ref h1, .int qx, .int qy, .int ql, .ref h2, .ref h3])), (h1, .inl (T 0, 10, .inl qb)), (h2, .inl (T 0, 10, .inl qp)), (h3, .inl (T 0, 12, .inl qc)), (n0, .inr (5, [.int (nI nn), .int nm, .int nl, .int no, .int nu, .ref n1, .ref n2, .ref n3, .ref n4, .ref n5, .ref n6, .ref n7, .ref n8, .ref n9, .ref n10])), (n1, .inl (T 0, 10, .inl nf1)), (n2, .inl (T 0, 10, .inl nf2)), (n3, .inl (T 0, 10, .inl nf3)), (n4, .inl (T 0, 10, .inl nf4)), (n5, .inl (T 0, 10, .inl nf5)), (n9, .inl (T 0, 10, .inl nf9))] (q_x_bestRound_f T nf6 nf7 fa o le wh n0 s0 im iz rw t0 u0 h0 y0 sv h1 qx qy ql h2 h3 qb qp qc nn nm nl no nu n1 n2 n3 n4 n5 n6 n7 n8 n9 n10 nf1 nf2 nf3 nf4 nf5 nf9) := by
  refine Ct.of (cc := cX7_bestRound) (maxL := 4) (ret := (some .int)) (by decide) (Nat.le_of_ble_eq_true rfl) ?_
  intro p e s m args below meth c A ls hC hnm V hl
  obtain ⟨hx, hb, hr, hml, hown, hts, hlocks⟩ := id hC
  generalize hH : s.heap = H at V ⊢
  clear hH
  have hl : lv_has ls 4 [(0, .ref o), (1, .int le), (2, .int wh)] := hl
  generalize hlo : ([] : List Loc) = locs at V ⊢
  clear hlo
  refine lv_iload_n hx hb dX7_bestRound_0 rfl (lv_at hl 2 rfl) ?_
  refine lv_if_eq (tgt := 21) hx hb dX7_bestRound_1 (by decide) (fun c_1 => ?_) (fun c_1 => ?_)
  · skip
    refine lv_iload_n hx hb dX7_bestRound_21 rfl (lv_at hl 1 rfl) ?_
    refine lv_iconst (v := (nI 1)) hx hb dX7_bestRound_22 (by decide +kernel) ?_
    refine lv_bipush (v := (nI 10)) hx hb dX7_bestRound_23 (by decide +kernel) ?_
    refine g_callSU (nA := 3) hC V hl.1 (c_isWithin l D T le (nI 1) (nI 10)) w_292 w_293 w_2 w_294 (by decide +kernel) rfl ⟨(Nat.le_of_ble_eq_true rfl), (Nat.le_of_ble_eq_true rfl)⟩ [] rfl rfl (Nat.le_of_ble_eq_true rfl) dX7_bestRound_25 ⟨(Nat.le_of_ble_eq_true rfl), (Nat.le_of_ble_eq_true rfl)⟩ rfl (fun r w1 H locs hQ V => ?_)
    rcases hQ with ⟨rfl, rfl, f_2, f_3⟩ | ⟨rfl, rfl, f_4⟩
    · have V : gW D T A s [(o, .inr (7, [.ref n0, .ref s0, .ref im, .ref iz, .ref rw, .ref t0, .ref u0, .ref h0, .ref y0, sv])), (h0, .inr (3, [.ref h1, .int qx, .int qy, .int ql, .ref h2, .ref h3])), (h1, .inl (T 0, 10, .inl qb)), (h2, .inl (T 0, 10, .inl qp)), (h3, .inl (T 0, 12, .inl qc)), (n0, .inr (5, [.int (nI nn), .int nm, .int nl, .int no, .int nu, .ref n1, .ref n2, .ref n3, .ref n4, .ref n5, .ref n6, .ref n7, .ref n8, .ref n9, .ref n10])), (n1, .inl (T 0, 10, .inl nf1)), (n2, .inl (T 0, 10, .inl nf2)), (n3, .inl (T 0, 10, .inl nf3)), (n4, .inl (T 0, 10, .inl nf4)), (n5, .inl (T 0, 10, .inl nf5)), (n9, .inl (T 0, 10, .inl nf9))] H locs := V _ [] rfl rfl rfl (by decide +kernel) rfl
      show W p l e _ s m args below meth c H locs _ _ _ (F0 m 28 ls [.int (nI 1)])
      obtain ⟨i, hi1, hi2, ei⟩ := g_rng (by first | decide | omega) (by first | decide | omega) f_2 f_3
      rw [ei] at hl
      have hmul : nn * i ≤ 10 * 10 := Nat.mul_le_mul h_n (by omega)
      refine lv_if_ne (tgt := 34) hx hb dX7_bestRound_28 (by decide) (fun _ => ?_) (fun c => absurd (show (nI 1) = 0 from c) (by decide +kernel))
      refine lv_aload_n hx hb dX7_bestRound_34 rfl (lv_at hl 0 rfl) ?_
      refine g_get hC V (ci := 7) uwX7 0 rfl rfl 0 (by decide) w_249 rfl rfl dX7_bestRound_35 ?_
      refine g_get hC V (ci := 5) uwX5 5 rfl rfl 0 (by decide) w_38 rfl rfl dX7_bestRound_38 ?_
      refine lv_iload_n hx hb dX7_bestRound_41 rfl (lv_at hl 1 rfl) ?_
      refine lv_imul hx hb dX7_bestRound_42 ?_
      refine g_vi (y := (nI (nn * i))) (pk_mul _ _) ?_
      refine lv_bipush (v := (nI 10)) hx hb dX7_bestRound_43 (by decide +kernel) ?_
      refine lv_icmp_le (tgt := 51) hx hb dX7_bestRound_45 (by decide) (fun c_5 => ?_) (fun c_5 => ?_)
      · skip
        have c_5 := b_le (by omega) (by omega) c_5
        refine lv_aload_n hx hb dX7_bestRound_51 rfl (lv_at hl 0 rfl) ?_
        refine g_get hC V (ci := 7) uwX7 0 rfl rfl 7 (by decide) w_256 rfl rfl dX7_bestRound_52 ?_
        refine lv_aload_n hx hb dX7_bestRound_55 rfl (lv_at hl 0 rfl) ?_
        refine g_get hC V (ci := 7) uwX7 0 rfl rfl 0 (by decide) w_249 rfl rfl dX7_bestRound_56 ?_
        refine lv_iload_n hx hb dX7_bestRound_59 rfl (lv_at hl 1 rfl) ?_
        refine g_callVU (nA := 2) hC V hl.1 (h_seekBest_f l D T fa h0 n0 i h1 qx qy ql h2 h3 qb qp qc nn nm nl no nu n1 n2 n3 n4 n5 n6 n7 n8 n9 n10 nf1 nf2 nf3 nf4 nf5 nf9 (by first | assumption | omega) ⟨by omega, by omega⟩ (by assumption) (fun i hi => (h_sr.2.2.2.2 i hi).1) (fun i hi => (h_sr.2.2.2.2 i hi).2.1) (fun i hi => (h_sr.2.2.2.2 i hi).2.2.1) (fun i hi => (h_sr.2.2.2.2 i hi).2.2.2.1) (fun i hi => (h_sr.2.2.2.2 i hi).2.2.2.2.1) (fun i hi => (h_sr.2.2.2.2 i hi).2.2.2.2.2.2.2) h_a h_lb) w_656 w_657 w_658 w_6 w_659 (by decide +kernel) rfl ⟨(Nat.le_of_ble_eq_true rfl), (Nat.le_of_ble_eq_true rfl)⟩ 1 (ci := 3) rfl rfl [1, 2, 3, 4, 5, 6, 7, 8, 9, 10, 11] rfl rfl (Nat.le_of_ble_eq_true rfl) dX7_bestRound_60 ⟨(Nat.le_of_ble_eq_true rfl), (Nat.le_of_ble_eq_true rfl)⟩ rfl (fun r w1 H locs hQ V => ?_)
        obtain ⟨z_6, g1_7, g2_8, g3_9, rfl, rfl, f_10, f_11⟩ := hQ
        have V : gW D T A s [(o, .inr (7, [.ref n0, .ref s0, .ref im, .ref iz, .ref rw, .ref t0, .ref u0, .ref h0, .ref y0, sv])), (h0, .inr (3, [.ref h1, .int qx, .int qy, .int (nI i), .ref h2, .ref h3])), (h1, .inl (T 0, 10, .inl g1_7)), (h2, .inl (T 0, 10, .inl g2_8)), (h3, .inl (T 0, 12, .inl g3_9)), (n0, .inr (5, [.int (nI nn), .int nm, .int nl, .int no, .int nu, .ref n1, .ref n2, .ref n3, .ref n4, .ref n5, .ref n6, .ref n7, .ref n8, .ref n9, .ref n10])), (n1, .inl (T 0, 10, .inl nf1)), (n2, .inl (T 0, 10, .inl nf2)), (n3, .inl (T 0, 10, .inl nf3)), (n4, .inl (T 0, 10, .inl nf4)), (n5, .inl (T 0, 10, .inl nf5)), (n9, .inl (T 0, 10, .inl nf9))] H locs := V _ [1, 0, 0, 0, 0, 0, 0, 0, 0, 0, 0] rfl rfl rfl (by decide +kernel) rfl
        show W p l e _ s m args below meth c H locs _ _ _ (F0 m 63 ls [.int z_6])
        refine lv_istore_n (lv' := [(3, .int z_6), (0, .ref o), (1, .int (nI i)), (2, .int wh)]) hx hb dX7_bestRound_63 rfl hl (by decide) rfl (fun ls hl => ?_)
        refine lv_iload_n hx hb dX7_bestRound_64 rfl (lv_at hl 3 rfl) ?_
        refine lv_if_eq (tgt := 73) hx hb dX7_bestRound_65 (by decide) (fun c_12 => ?_) (fun c_12 => ?_)
        · skip
          refine lv_iload_n hx hb dX7_bestRound_73 rfl (lv_at hl 0 rfl) ?_
          refine lv_goto (tgt := 89) hx hb dX7_bestRound_74 (by decide) ?_
          exact g_iret (Qr := (q_x_bestRound_f T nf6 nf7 fa o le wh n0 s0 im iz rw t0 u0 h0 y0 sv h1 qx qy ql h2 h3 qb qp qc nn nm nl no nu n1 n2 n3 n4 n5 n6 n7 n8 n9 n10 nf1 nf2 nf3 nf4 nf5 nf9)) hC V ⟨(Nat.le_of_ble_eq_true rfl), (Nat.le_of_ble_eq_true rfl)⟩ ⟨z_6, qx, qy, (nI i), g1_7, g2_8, g3_9, rfl, rfl, (br_p (fun q => q.1 c_1) f_2 f_3 ei (by omega) (by omega) f_10 (Or.inl c_12))⟩ dX7_bestRound_89
        · skip
          refine lv_iload_n hx hb dX7_bestRound_68 rfl (lv_at hl 0 rfl) ?_
          refine lv_iconst (v := (-1)) hx hb dX7_bestRound_69 (by decide +kernel) ?_
          refine lv_icmp_ne (tgt := 77) hx hb dX7_bestRound_70 (by decide) (fun c_13 => ?_) (fun c_13 => ?_)
          · skip
            refine lv_aload_n hx hb dX7_bestRound_77 rfl (lv_at hl 1 rfl) ?_
            refine g_get hC V (ci := 7) uwX7 0 rfl rfl 7 (by decide) w_256 rfl rfl dX7_bestRound_78 ?_
            refine g_get hC V (ci := 3) uwX3 1 rfl rfl 0 (by decide) w_184 rfl rfl dX7_bestRound_81 ?_
            refine lv_iload_n hx hb dX7_bestRound_84 rfl (lv_at hl 3 rfl) ?_
            refine lv_bipush (v := (nI 10)) hx hb dX7_bestRound_85 (by decide +kernel) ?_
            refine lv_isub hx hb dX7_bestRound_87 ?_
            exact absurd (by assumption) ‹¬ wh = 0›
          · skip
            refine lv_iload_n hx hb dX7_bestRound_73 rfl (lv_at hl 0 rfl) ?_
            refine lv_goto (tgt := 89) hx hb dX7_bestRound_74 (by decide) ?_
            exact g_iret (Qr := (q_x_bestRound_f T nf6 nf7 fa o le wh n0 s0 im iz rw t0 u0 h0 y0 sv h1 qx qy ql h2 h3 qb qp qc nn nm nl no nu n1 n2 n3 n4 n5 n6 n7 n8 n9 n10 nf1 nf2 nf3 nf4 nf5 nf9)) hC V ⟨(Nat.le_of_ble_eq_true rfl), (Nat.le_of_ble_eq_true rfl)⟩ ⟨z_6, qx, qy, (nI i), g1_7, g2_8, g3_9, rfl, rfl, (br_p (fun q => q.1 c_1) f_2 f_3 ei (by omega) (by omega) f_10 (Or.inr c_13))⟩ dX7_bestRound_89
      · skip
        have c_5 := b_nle (by omega) (by omega) c_5
        refine lv_bipush (v := (-4)) hx hb dX7_bestRound_48 (by decide +kernel) ?_
        exact g_iret (Qr := (q_x_bestRound_f T nf6 nf7 fa o le wh n0 s0 im iz rw t0 u0 h0 y0 sv h1 qx qy ql h2 h3 qb qp qc nn nm nl no nu n1 n2 n3 n4 n5 n6 n7 n8 n9 n10 nf1 nf2 nf3 nf4 nf5 nf9)) hC V ⟨(Nat.le_of_ble_eq_true rfl), (Nat.le_of_ble_eq_true rfl)⟩ ⟨(-4), qx, qy, ql, qb, qp, qc, rfl, rfl, (br_4 (fun q => q.1 c_1) f_2 f_3 ei (by omega) (by omega))⟩ dX7_bestRound_50
    · have V : gW D T A s [(o, .inr (7, [.ref n0, .ref s0, .ref im, .ref iz, .ref rw, .ref t0, .ref u0, .ref h0, .ref y0, sv])), (h0, .inr (3, [.ref h1, .int qx, .int qy, .int ql, .ref h2, .ref h3])), (h1, .inl (T 0, 10, .inl qb)), (h2, .inl (T 0, 10, .inl qp)), (h3, .inl (T 0, 12, .inl qc)), (n0, .inr (5, [.int (nI nn), .int nm, .int nl, .int no, .int nu, .ref n1, .ref n2, .ref n3, .ref n4, .ref n5, .ref n6, .ref n7, .ref n8, .ref n9, .ref n10])), (n1, .inl (T 0, 10, .inl nf1)), (n2, .inl (T 0, 10, .inl nf2)), (n3, .inl (T 0, 10, .inl nf3)), (n4, .inl (T 0, 10, .inl nf4)), (n5, .inl (T 0, 10, .inl nf5)), (n9, .inl (T 0, 10, .inl nf9))] H locs := V _ [] rfl rfl rfl (by decide +kernel) rfl
      show W p l e _ s m args below meth c H locs _ _ _ (F0 m 28 ls [.int (nI 0)])
      refine lv_if_ne (tgt := 34) hx hb dX7_bestRound_28 (by decide) (fun c => absurd (show (nI 0) = 0 by decide +kernel) c) (fun _ => ?_)
      refine lv_bipush (v := (-3)) hx hb dX7_bestRound_31 (by decide +kernel) ?_
      exact g_iret (Qr := (q_x_bestRound_f T nf6 nf7 fa o le wh n0 s0 im iz rw t0 u0 h0 y0 sv h1 qx qy ql h2 h3 qb qp qc nn nm nl no nu n1 n2 n3 n4 n5 n6 n7 n8 n9 n10 nf1 nf2 nf3 nf4 nf5 nf9)) hC V ⟨(Nat.le_of_ble_eq_true rfl), (Nat.le_of_ble_eq_true rfl)⟩ ⟨(-3), qx, qy, ql, qb, qp, qc, rfl, rfl, (br_3 (fun q => q.1 c_1) f_4)⟩ dX7_bestRound_33
  · skip
    refine lv_aload_n hx hb dX7_bestRound_4 rfl (lv_at hl 0 rfl) ?_
    refine g_get hC V (ci := 7) uwX7 0 rfl rfl 0 (by decide) w_249 rfl rfl dX7_bestRound_5 ?_
    refine lv_iload_n hx hb dX7_bestRound_8 rfl (lv_at hl 2 rfl) ?_
    refine lv_bipush (v := (nI 10)) hx hb dX7_bestRound_9 (by decide +kernel) ?_
    refine lv_isub hx hb dX7_bestRound_11 ?_
    refine g_callVU (nA := 1) hC V hl.1 (s_isSmith l D T n0 (wh - (nI 10)) nn nm nl no nu n1 n2 n3 n4 n5 n6 n7 n8 n9 n10 (by first | assumption | omega)) w_425 w_426 w_427 w_3 w_428 (by decide +kernel) rfl ⟨(Nat.le_of_ble_eq_true rfl), (Nat.le_of_ble_eq_true rfl)⟩ 5 (ci := 5) rfl rfl [5] rfl rfl (Nat.le_of_ble_eq_true rfl) dX7_bestRound_12 ⟨(Nat.le_of_ble_eq_true rfl), (Nat.le_of_ble_eq_true rfl)⟩ rfl (fun r w1 H locs hQ V => ?_)
    rcases hQ with ⟨j_14, rfl, rfl, f_15, f_16⟩ | ⟨rfl, rfl, f_17⟩
    · have V : gW D T A s [(o, .inr (7, [.ref n0, .ref s0, .ref im, .ref iz, .ref rw, .ref t0, .ref u0, .ref h0, .ref y0, sv])), (h0, .inr (3, [.ref h1, .int qx, .int qy, .int ql, .ref h2, .ref h3])), (h1, .inl (T 0, 10, .inl qb)), (h2, .inl (T 0, 10, .inl qp)), (h3, .inl (T 0, 12, .inl qc)), (n0, .inr (5, [.int (nI nn), .int nm, .int nl, .int no, .int nu, .ref n1, .ref n2, .ref n3, .ref n4, .ref n5, .ref n6, .ref n7, .ref n8, .ref n9, .ref n10])), (n1, .inl (T 0, 10, .inl nf1)), (n2, .inl (T 0, 10, .inl nf2)), (n3, .inl (T 0, 10, .inl nf3)), (n4, .inl (T 0, 10, .inl nf4)), (n5, .inl (T 0, 10, .inl nf5)), (n9, .inl (T 0, 10, .inl nf9))] H locs := V _ [5] rfl rfl rfl (by decide +kernel) rfl
      show W p l e _ s m args below meth c H locs _ _ _ (F0 m 15 ls [.int (nI 1)])
      refine lv_if_ne (tgt := 21) hx hb dX7_bestRound_15 (by decide) (fun _ => ?_) (fun c => absurd (show (nI 1) = 0 from c) (by decide +kernel))
      refine lv_iload_n hx hb dX7_bestRound_21 rfl (lv_at hl 1 rfl) ?_
      refine lv_iconst (v := (nI 1)) hx hb dX7_bestRound_22 (by decide +kernel) ?_
      refine lv_bipush (v := (nI 10)) hx hb dX7_bestRound_23 (by decide +kernel) ?_
      refine g_callSU (nA := 3) hC V hl.1 (c_isWithin l D T le (nI 1) (nI 10)) w_292 w_293 w_2 w_294 (by decide +kernel) rfl ⟨(Nat.le_of_ble_eq_true rfl), (Nat.le_of_ble_eq_true rfl)⟩ [] rfl rfl (Nat.le_of_ble_eq_true rfl) dX7_bestRound_25 ⟨(Nat.le_of_ble_eq_true rfl), (Nat.le_of_ble_eq_true rfl)⟩ rfl (fun r w1 H locs hQ V => ?_)
      rcases hQ with ⟨rfl, rfl, f_18, f_19⟩ | ⟨rfl, rfl, f_20⟩
      · have V : gW D T A s [(o, .inr (7, [.ref n0, .ref s0, .ref im, .ref iz, .ref rw, .ref t0, .ref u0, .ref h0, .ref y0, sv])), (h0, .inr (3, [.ref h1, .int qx, .int qy, .int ql, .ref h2, .ref h3])), (h1, .inl (T 0, 10, .inl qb)), (h2, .inl (T 0, 10, .inl qp)), (h3, .inl (T 0, 12, .inl qc)), (n0, .inr (5, [.int (nI nn), .int nm, .int nl, .int no, .int nu, .ref n1, .ref n2, .ref n3, .ref n4, .ref n5, .ref n6, .ref n7, .ref n8, .ref n9, .ref n10])), (n1, .inl (T 0, 10, .inl nf1)), (n2, .inl (T 0, 10, .inl nf2)), (n3, .inl (T 0, 10, .inl nf3)), (n4, .inl (T 0, 10, .inl nf4)), (n5, .inl (T 0, 10, .inl nf5)), (n9, .inl (T 0, 10, .inl nf9))] H locs := V _ [] rfl rfl rfl (by decide +kernel) rfl
        show W p l e _ s m args below meth c H locs _ _ _ (F0 m 28 ls [.int (nI 1)])
        obtain ⟨i, hi1, hi2, ei⟩ := g_rng (by first | decide | omega) (by first | decide | omega) f_18 f_19
        rw [ei] at hl
        have hmul : nn * i ≤ 10 * 10 := Nat.mul_le_mul h_n (by omega)
        refine lv_if_ne (tgt := 34) hx hb dX7_bestRound_28 (by decide) (fun _ => ?_) (fun c => absurd (show (nI 1) = 0 from c) (by decide +kernel))
        refine lv_aload_n hx hb dX7_bestRound_34 rfl (lv_at hl 0 rfl) ?_
        refine g_get hC V (ci := 7) uwX7 0 rfl rfl 0 (by decide) w_249 rfl rfl dX7_bestRound_35 ?_
        refine g_get hC V (ci := 5) uwX5 5 rfl rfl 0 (by decide) w_38 rfl rfl dX7_bestRound_38 ?_
        refine lv_iload_n hx hb dX7_bestRound_41 rfl (lv_at hl 1 rfl) ?_
        refine lv_imul hx hb dX7_bestRound_42 ?_
        refine g_vi (y := (nI (nn * i))) (pk_mul _ _) ?_
        refine lv_bipush (v := (nI 10)) hx hb dX7_bestRound_43 (by decide +kernel) ?_
        refine lv_icmp_le (tgt := 51) hx hb dX7_bestRound_45 (by decide) (fun c_21 => ?_) (fun c_21 => ?_)
        · skip
          have c_21 := b_le (by omega) (by omega) c_21
          refine lv_aload_n hx hb dX7_bestRound_51 rfl (lv_at hl 0 rfl) ?_
          refine g_get hC V (ci := 7) uwX7 0 rfl rfl 7 (by decide) w_256 rfl rfl dX7_bestRound_52 ?_
          refine lv_aload_n hx hb dX7_bestRound_55 rfl (lv_at hl 0 rfl) ?_
          refine g_get hC V (ci := 7) uwX7 0 rfl rfl 0 (by decide) w_249 rfl rfl dX7_bestRound_56 ?_
          refine lv_iload_n hx hb dX7_bestRound_59 rfl (lv_at hl 1 rfl) ?_
          refine g_callVU (nA := 2) hC V hl.1 (h_seekBest_f l D T fa h0 n0 i h1 qx qy ql h2 h3 qb qp qc nn nm nl no nu n1 n2 n3 n4 n5 n6 n7 n8 n9 n10 nf1 nf2 nf3 nf4 nf5 nf9 (by first | assumption | omega) ⟨by omega, by omega⟩ (by assumption) (fun i hi => (h_sr.2.2.2.2 i hi).1) (fun i hi => (h_sr.2.2.2.2 i hi).2.1) (fun i hi => (h_sr.2.2.2.2 i hi).2.2.1) (fun i hi => (h_sr.2.2.2.2 i hi).2.2.2.1) (fun i hi => (h_sr.2.2.2.2 i hi).2.2.2.2.1) (fun i hi => (h_sr.2.2.2.2 i hi).2.2.2.2.2.2.2) h_a h_lb) w_656 w_657 w_658 w_6 w_659 (by decide +kernel) rfl ⟨(Nat.le_of_ble_eq_true rfl), (Nat.le_of_ble_eq_true rfl)⟩ 1 (ci := 3) rfl rfl [1, 2, 3, 4, 5, 6, 7, 8, 9, 10, 11] rfl rfl (Nat.le_of_ble_eq_true rfl) dX7_bestRound_60 ⟨(Nat.le_of_ble_eq_true rfl), (Nat.le_of_ble_eq_true rfl)⟩ rfl (fun r w1 H locs hQ V => ?_)
          obtain ⟨z_22, g1_23, g2_24, g3_25, rfl, rfl, f_26, f_27⟩ := hQ
          have V : gW D T A s [(o, .inr (7, [.ref n0, .ref s0, .ref im, .ref iz, .ref rw, .ref t0, .ref u0, .ref h0, .ref y0, sv])), (h0, .inr (3, [.ref h1, .int qx, .int qy, .int (nI i), .ref h2, .ref h3])), (h1, .inl (T 0, 10, .inl g1_23)), (h2, .inl (T 0, 10, .inl g2_24)), (h3, .inl (T 0, 12, .inl g3_25)), (n0, .inr (5, [.int (nI nn), .int nm, .int nl, .int no, .int nu, .ref n1, .ref n2, .ref n3, .ref n4, .ref n5, .ref n6, .ref n7, .ref n8, .ref n9, .ref n10])), (n1, .inl (T 0, 10, .inl nf1)), (n2, .inl (T 0, 10, .inl nf2)), (n3, .inl (T 0, 10, .inl nf3)), (n4, .inl (T 0, 10, .inl nf4)), (n5, .inl (T 0, 10, .inl nf5)), (n9, .inl (T 0, 10, .inl nf9))] H locs := V _ [1, 0, 0, 0, 0, 0, 0, 0, 0, 0, 0] rfl rfl rfl (by decide +kernel) rfl
          show W p l e _ s m args below meth c H locs _ _ _ (F0 m 63 ls [.int z_22])
          refine lv_istore_n (lv' := [(3, .int z_22), (0, .ref o), (1, .int (nI i)), (2, .int wh)]) hx hb dX7_bestRound_63 rfl hl (by decide) rfl (fun ls hl => ?_)
          refine lv_iload_n hx hb dX7_bestRound_64 rfl (lv_at hl 3 rfl) ?_
          refine lv_if_eq (tgt := 73) hx hb dX7_bestRound_65 (by decide) (fun c_28 => ?_) (fun c_28 => ?_)
          · skip
            refine lv_iload_n hx hb dX7_bestRound_73 rfl (lv_at hl 0 rfl) ?_
            refine lv_goto (tgt := 89) hx hb dX7_bestRound_74 (by decide) ?_
            exact g_iret (Qr := (q_x_bestRound_f T nf6 nf7 fa o le wh n0 s0 im iz rw t0 u0 h0 y0 sv h1 qx qy ql h2 h3 qb qp qc nn nm nl no nu n1 n2 n3 n4 n5 n6 n7 n8 n9 n10 nf1 nf2 nf3 nf4 nf5 nf9)) hC V ⟨(Nat.le_of_ble_eq_true rfl), (Nat.le_of_ble_eq_true rfl)⟩ ⟨z_22, qx, qy, (nI i), g1_23, g2_24, g3_25, rfl, rfl, (br_p (fun q => q.2 (sw_y f_16 f_15)) f_18 f_19 ei (by omega) (by omega) f_26 (Or.inl c_28))⟩ dX7_bestRound_89
          · skip
            refine lv_iload_n hx hb dX7_bestRound_68 rfl (lv_at hl 0 rfl) ?_
            refine lv_iconst (v := (-1)) hx hb dX7_bestRound_69 (by decide +kernel) ?_
            refine lv_icmp_ne (tgt := 77) hx hb dX7_bestRound_70 (by decide) (fun c_29 => ?_) (fun c_29 => ?_)
            · skip
              refine lv_aload_n hx hb dX7_bestRound_77 rfl (lv_at hl 1 rfl) ?_
              refine g_get hC V (ci := 7) uwX7 0 rfl rfl 7 (by decide) w_256 rfl rfl dX7_bestRound_78 ?_
              refine g_get hC V (ci := 3) uwX3 1 rfl rfl 0 (by decide) w_184 rfl rfl dX7_bestRound_81 ?_
              refine lv_iload_n hx hb dX7_bestRound_84 rfl (lv_at hl 3 rfl) ?_
              refine lv_bipush (v := (nI 10)) hx hb dX7_bestRound_85 (by decide +kernel) ?_
              refine lv_isub hx hb dX7_bestRound_87 ?_
              refine g_vi (y := nI j_14) f_15 ?_
              refine g_iald hC V 2 rfl (vp_in_nI (by omega) (by omega)) (v := (g1_23 j_14)) (congrArg _ (nI_clamp (by omega))) dX7_bestRound_88 ?_
              exact g_iret (Qr := (q_x_bestRound_f T nf6 nf7 fa o le wh n0 s0 im iz rw t0 u0 h0 y0 sv h1 qx qy ql h2 h3 qb qp qc nn nm nl no nu n1 n2 n3 n4 n5 n6 n7 n8 n9 n10 nf1 nf2 nf3 nf4 nf5 nf9)) hC V ⟨(Nat.le_of_ble_eq_true rfl), (Nat.le_of_ble_eq_true rfl)⟩ ⟨(g1_23 j_14), qx, qy, (nI i), g1_23, g2_24, g3_25, rfl, rfl, (br_b (fun q => q.2 (sw_y f_16 f_15)) f_18 f_19 ei (by omega) (by omega) f_26 c_28 c_29 f_15 (by omega) (f_27 c_29 j_14 f_16))⟩ dX7_bestRound_89
            · skip
              refine lv_iload_n hx hb dX7_bestRound_73 rfl (lv_at hl 0 rfl) ?_
              refine lv_goto (tgt := 89) hx hb dX7_bestRound_74 (by decide) ?_
              exact g_iret (Qr := (q_x_bestRound_f T nf6 nf7 fa o le wh n0 s0 im iz rw t0 u0 h0 y0 sv h1 qx qy ql h2 h3 qb qp qc nn nm nl no nu n1 n2 n3 n4 n5 n6 n7 n8 n9 n10 nf1 nf2 nf3 nf4 nf5 nf9)) hC V ⟨(Nat.le_of_ble_eq_true rfl), (Nat.le_of_ble_eq_true rfl)⟩ ⟨z_22, qx, qy, (nI i), g1_23, g2_24, g3_25, rfl, rfl, (br_p (fun q => q.2 (sw_y f_16 f_15)) f_18 f_19 ei (by omega) (by omega) f_26 (Or.inr c_29))⟩ dX7_bestRound_89
        · skip
          have c_21 := b_nle (by omega) (by omega) c_21
          refine lv_bipush (v := (-4)) hx hb dX7_bestRound_48 (by decide +kernel) ?_
          exact g_iret (Qr := (q_x_bestRound_f T nf6 nf7 fa o le wh n0 s0 im iz rw t0 u0 h0 y0 sv h1 qx qy ql h2 h3 qb qp qc nn nm nl no nu n1 n2 n3 n4 n5 n6 n7 n8 n9 n10 nf1 nf2 nf3 nf4 nf5 nf9)) hC V ⟨(Nat.le_of_ble_eq_true rfl), (Nat.le_of_ble_eq_true rfl)⟩ ⟨(-4), qx, qy, ql, qb, qp, qc, rfl, rfl, (br_4 (fun q => q.2 (sw_y f_16 f_15)) f_18 f_19 ei (by omega) (by omega))⟩ dX7_bestRound_50
      · have V : gW D T A s [(o, .inr (7, [.ref n0, .ref s0, .ref im, .ref iz, .ref rw, .ref t0, .ref u0, .ref h0, .ref y0, sv])), (h0, .inr (3, [.ref h1, .int qx, .int qy, .int ql, .ref h2, .ref h3])), (h1, .inl (T 0, 10, .inl qb)), (h2, .inl (T 0, 10, .inl qp)), (h3, .inl (T 0, 12, .inl qc)), (n0, .inr (5, [.int (nI nn), .int nm, .int nl, .int no, .int nu, .ref n1, .ref n2, .ref n3, .ref n4, .ref n5, .ref n6, .ref n7, .ref n8, .ref n9, .ref n10])), (n1, .inl (T 0, 10, .inl nf1)), (n2, .inl (T 0, 10, .inl nf2)), (n3, .inl (T 0, 10, .inl nf3)), (n4, .inl (T 0, 10, .inl nf4)), (n5, .inl (T 0, 10, .inl nf5)), (n9, .inl (T 0, 10, .inl nf9))] H locs := V _ [] rfl rfl rfl (by decide +kernel) rfl
        show W p l e _ s m args below meth c H locs _ _ _ (F0 m 28 ls [.int (nI 0)])
        refine lv_if_ne (tgt := 34) hx hb dX7_bestRound_28 (by decide) (fun c => absurd (show (nI 0) = 0 by decide +kernel) c) (fun _ => ?_)
        refine lv_bipush (v := (-3)) hx hb dX7_bestRound_31 (by decide +kernel) ?_
        exact g_iret (Qr := (q_x_bestRound_f T nf6 nf7 fa o le wh n0 s0 im iz rw t0 u0 h0 y0 sv h1 qx qy ql h2 h3 qb qp qc nn nm nl no nu n1 n2 n3 n4 n5 n6 n7 n8 n9 n10 nf1 nf2 nf3 nf4 nf5 nf9)) hC V ⟨(Nat.le_of_ble_eq_true rfl), (Nat.le_of_ble_eq_true rfl)⟩ ⟨(-3), qx, qy, ql, qb, qp, qc, rfl, rfl, (br_3 (fun q => q.2 (sw_y f_16 f_15)) f_20)⟩ dX7_bestRound_33
    · have V : gW D T A s [(o, .inr (7, [.ref n0, .ref s0, .ref im, .ref iz, .ref rw, .ref t0, .ref u0, .ref h0, .ref y0, sv])), (h0, .inr (3, [.ref h1, .int qx, .int qy, .int ql, .ref h2, .ref h3])), (h1, .inl (T 0, 10, .inl qb)), (h2, .inl (T 0, 10, .inl qp)), (h3, .inl (T 0, 12, .inl qc)), (n0, .inr (5, [.int (nI nn), .int nm, .int nl, .int no, .int nu, .ref n1, .ref n2, .ref n3, .ref n4, .ref n5, .ref n6, .ref n7, .ref n8, .ref n9, .ref n10])), (n1, .inl (T 0, 10, .inl nf1)), (n2, .inl (T 0, 10, .inl nf2)), (n3, .inl (T 0, 10, .inl nf3)), (n4, .inl (T 0, 10, .inl nf4)), (n5, .inl (T 0, 10, .inl nf5)), (n9, .inl (T 0, 10, .inl nf9))] H locs := V _ [5] rfl rfl rfl (by decide +kernel) rfl
      show W p l e _ s m args below meth c H locs _ _ _ (F0 m 15 ls [.int (nI 0)])
      refine lv_if_ne (tgt := 21) hx hb dX7_bestRound_15 (by decide) (fun c => absurd (show (nI 0) = 0 by decide +kernel) c) (fun _ => ?_)
      refine lv_bipush (v := (-2)) hx hb dX7_bestRound_18 (by decide +kernel) ?_
      exact g_iret (Qr := (q_x_bestRound_f T nf6 nf7 fa o le wh n0 s0 im iz rw t0 u0 h0 y0 sv h1 qx qy ql h2 h3 qb qp qc nn nm nl no nu n1 n2 n3 n4 n5 n6 n7 n8 n9 n10 nf1 nf2 nf3 nf4 nf5 nf9)) hC V ⟨(Nat.le_of_ble_eq_true rfl), (Nat.le_of_ble_eq_true rfl)⟩ ⟨(-2), qx, qy, ql, qb, qp, qc, rfl, rfl, (br_2 c_1 (sw_n1 h_n f_17))⟩ dX7_bestRound_20
