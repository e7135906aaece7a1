def q_x_day_f (T : Nat → ClassId) (fa : Nat → Int32) (o : Nat) (seed : Int32) (n : Int32) (n0 : Nat) (s0 : Nat) (im : Nat) (iz : Nat) (rw : Nat) (t0 : Nat) (u0 : Nat) (h0 : Nat) (y0 : Nat) (sv : Value) (nn : Nat) (nm : Int32) (nl : Int32) (no : Int32) (nu : Int32) (n1 : Nat) (n2 : Nat) (n3 : Nat) (n4 : Nat) (n5 : Nat) (n6 : Nat) (n7 : Nat) (n8 : Nat) (n9 : Nat) (n10 : Nat) (nf1 : Nat → Int32) (nf2 : Nat → Int32) (nf3 : Nat → Int32) (nf4 : Nat → Int32) (nf5 : Nat → Int32) (nf6 : Nat → Int32) (nf7 : Nat → Int32) (nf8 : Nat → Int32) (nf9 : Nat → Int32) (nf10 : Nat → Int32) : Option Value → va_W → Prop := fun rr ww => (∃ (z : Int32) (mm : Int32) (uu : Int32) (g3 : Nat → Int32) (g7 : Nat → Int32) (g8 : Nat → Int32) (g10 : Nat → Int32), rr = some (.int z) ∧ ww = [(o, .inr (7, [.ref n0, .ref s0, .ref im, .ref iz, .ref rw, .ref t0, .ref u0, .ref h0, .ref y0, sv])), (n0, .inr (5, [.int (nI nn), .int mm, .int nl, .int no, .int uu, .ref n1, .ref n2, .ref n3, .ref n4, .ref n5, .ref n6, .ref n7, .ref n8, .ref n9, .ref n10])), (n1, .inl (T 0, 10, .inl nf1)), (n2, .inl (T 0, 10, .inl nf2)), (n3, .inl (T 0, 10, .inl g3)), (n4, .inl (T 0, 10, .inl nf4)), (n5, .inl (T 0, 10, .inl nf5)), (n6, .inl (T 0, 10, .inl nf6)), (n7, .inl (T 0, 10, .inl g7)), (n8, .inl (T 0, 10, .inl g8)), (n9, .inl (T 0, 10, .inl nf9)), (n10, .inl (T 0, 10, .inl g10))] ∧ z = dayA nn fa seed n ∧ SR nn mm nl no nf1 nf2 g3 nf4 nf5 nf6 g7 nf9 (dayF nn fa seed n))
set_option maxHeartbeats 4000000 in
set_option maxRecDepth 100000 in
theorem x_day_f (l : Launch) (D : va_G) (T : Nat → ClassId) (fa : Nat → Int32) (o : Nat) (seed : Int32) (n : Int32) (n0 : Nat) (s0 : Nat) (im : Nat) (iz : Nat) (rw : Nat) (t0 : Nat) (u0 : Nat) (h0 : Nat) (y0 : Nat) (sv : Value) (nn : Nat) (nm : Int32) (nl : Int32) (no : Int32) (nu : Int32) (n1 : Nat) (n2 : Nat) (n3 : Nat) (n4 : Nat) (n5 : Nat) (n6 : Nat) (n7 : Nat) (n8 : Nat) (n9 : Nat) (n10 : Nat) (nf1 : Nat → Int32) (nf2 : Nat → Int32) (nf3 : Nat → Int32) (nf4 : Nat → Int32) (nf5 : Nat → Int32) (nf6 : Nat → Int32) (nf7 : Nat → Int32) (nf8 : Nat → Int32) (nf9 : Nat → Int32) (nf10 : Nat → Int32) (h_n : nn ≤ 10) (h_t : ∀ i, i < nn → bd (nf9 i) nn) (h_sr : SR nn nm nl no nf1 nf2 nf3 nf4 nf5 nf6 nf7 nf9 fa) (h_a : MI nn fa) : Ct l yX7_day cX7_day 11 (some .int) 3 0 0 D T [.ref o, .int seed, .int n] [(o, .inr (7, [.ref n0, .ref s0, .ref im, .ref iz, .ref rw, .ref t0, .ref u0, .ref h0, .ref y0, sv])), (n0, .inr (5, [.int (nI nn), .int nm, .int nl, .int no, .int nu, .ref n1, .ref n2, .ref n3, .ref n4, .ref n5, .ref n6, .ref n7, .ref n8, .ref n9, .ref n10])), (n1, .inl (T 0, 10, .inl nf1)), (n2, .inl (T 0, 10, .inl nf2)), (n3, .inl (T 0, 10, .inl nf3)), (n4, .inl (T 0, 10, .inl nf4)), (n5, .inl (T 0, 10, .inl nf5)), (n6, .inl (T 0, 10, .inl nf6)), (n7, .inl (T 0, 10, .inl nf7)), (n8, .inl (T 0, 10, .inl nf8)), (n9, .inl (T 0, 10, .inl nf9)), (n10, .inl (T 0, 10, .inl nf10))] (q_x_day_f T fa o seed n n0 s0 im iz rw t0 u0 h0 y0 sv nn nm nl no nu n1 n2 n3 n4 n5 n6 n7 n8 n9 n10 nf1 nf2 nf3 nf4 nf5 nf6 nf7 nf8 nf9 nf10) := by
  refine Ct.of (cc := cX7_day) (maxL := 11) (ret := (some .int)) (by decide) (Nat.le_of_ble_eq_true rfl) ?_
  intro p e s m args below meth c A ls hC hnm V hl
  obtain ⟨hx, hb, hr, hml, hown, hts, hlocks⟩ := id hC
  generalize hH : s.heap = H at V ⊢
  clear hH
  have hl : lv_has ls 11 [(0, .ref o), (1, .int seed), (2, .int n)] := hl
  generalize hlo : ([] : List Loc) = locs at V ⊢
  clear hlo
  refine lv_aload_n hx hb dX7_day_0 rfl (lv_at hl 0 rfl) ?_
  refine lv_iload_n hx hb dX7_day_1 rfl (lv_at hl 2 rfl) ?_
  refine lv_bipush (v := (nI 60)) hx hb dX7_day_2 (by decide +kernel) ?_
  refine g_callVU (nA := 2) hC V hl.1 (x_refMin_f l D T o n 60 n0 s0 im iz rw t0 u0 h0 y0 sv nn nm nl no nu n1 n2 n3 n4 n5 n6 n7 n8 n9 n10 (by first | assumption | omega)) w_532 w_534 w_s12 w_2 w_535 (by decide +kernel) rfl ⟨(Nat.le_of_ble_eq_true rfl), (Nat.le_of_ble_eq_true rfl)⟩ 0 (ci := 7) rfl rfl [0, 1] rfl rfl (Nat.le_of_ble_eq_true rfl) dX7_day_4 ⟨(Nat.le_of_ble_eq_true rfl), (Nat.le_of_ble_eq_true rfl)⟩ rfl (fun r w1 H locs hQ V => ?_)
  rcases hQ with ⟨jd, rfl, rfl, f_1, f_2, f_3, f_4⟩ | ⟨z_5, rfl, rfl, f_6, f_7⟩
  · have V : gW D T A s [(o, .inr (7, [.ref n0, .ref s0, .ref im, .ref iz, .ref rw, .ref t0, .ref u0, .ref h0, .ref y0, sv])), (n0, .inr (5, [.int (nI nn), .int nm, .int nl, .int no, .int nu, .ref n1, .ref n2, .ref n3, .ref n4, .ref n5, .ref n6, .ref n7, .ref n8, .ref n9, .ref n10])), (n1, .inl (T 0, 10, .inl nf1)), (n2, .inl (T 0, 10, .inl nf2)), (n3, .inl (T 0, 10, .inl nf3)), (n4, .inl (T 0, 10, .inl nf4)), (n5, .inl (T 0, 10, .inl nf5)), (n6, .inl (T 0, 10, .inl nf6)), (n7, .inl (T 0, 10, .inl nf7)), (n8, .inl (T 0, 10, .inl nf8)), (n9, .inl (T 0, 10, .inl nf9)), (n10, .inl (T 0, 10, .inl nf10))] H locs := V _ [0, 0] rfl rfl rfl (by decide +kernel) rfl
    show W p l e _ s m args below meth c H locs _ _ _ (F0 m 7 ls [.int (nI 0)])
    rw [f_3] at hl
    refine lv_istore_n (lv' := [(3, .int (nI 0)), (0, .ref o), (1, .int seed), (2, .int (nI jd))]) hx hb dX7_day_7 rfl hl (by decide) rfl (fun ls hl => ?_)
    refine lv_iload_n hx hb dX7_day_8 rfl (lv_at hl 0 rfl) ?_
    refine lv_if_eq (tgt := 14) hx hb dX7_day_9 (by decide) (fun _ => ?_) (fun c => absurd (show (nI 0) = 0 by decide +kernel) c)
    refine lv_iload_n hx hb dX7_day_14 rfl (lv_at hl 2 rfl) ?_
    refine lv_istore (lv' := [(4, .int seed), (3, .int (nI 0)), (0, .ref o), (1, .int seed), (2, .int (nI jd))]) hx hb dX7_day_15 hl (by decide) rfl (fun ls hl => ?_)
    refine lv_iconst (v := (nI 0)) hx hb dX7_day_17 (by decide +kernel) ?_
    refine lv_istore (lv' := [(5, .int (nI 0)), (4, .int seed), (3, .int (nI 0)), (0, .ref o), (1, .int seed), (2, .int (nI jd))]) hx hb dX7_day_18 hl (by decide) rfl (fun ls hl => ?_)
    refine lv_iconst (v := (nI 0)) hx hb dX7_day_20 (by decide +kernel) ?_
    refine lv_istore (lv' := [(6, .int (nI 0)), (5, .int (nI 0)), (4, .int seed), (3, .int (nI 0)), (0, .ref o), (1, .int seed), (2, .int (nI jd))]) hx hb dX7_day_21 hl (by decide) rfl (fun ls hl => ?_)
    have L_8 : ∀ (fu : Nat) (k23 : Nat) (yv : Int32) (x5 : Int32) (mv : Int32) (uv : Int32) (ga : Nat → Int32) (gb : Nat → Int32) (gc : Nat → Int32) (gd : Nat → Int32), k23 ≤ jd → yv = dyX nn seed k23 → SR nn mv nl no nf1 nf2 ga nf4 nf5 nf6 gb nf9 (dyI nn fa seed k23) → x5 = dyC nn fa seed k23 → jd - k23 < fu → ∀ (H : Heap) (locs : List Loc) (ls : Array Slot), gW D T A s [(o, .inr (7, [.ref n0, .ref s0, .ref im, .ref iz, .ref rw, .ref t0, .ref u0, .ref h0, .ref y0, sv])), (n0, .inr (5, [.int (nI nn), .int mv, .int nl, .int no, .int uv, .ref n1, .ref n2, .ref n3, .ref n4, .ref n5, .ref n6, .ref n7, .ref n8, .ref n9, .ref n10])), (n1, .inl (T 0, 10, .inl nf1)), (n2, .inl (T 0, 10, .inl nf2)), (n3, .inl (T 0, 10, .inl ga)), (n4, .inl (T 0, 10, .inl nf4)), (n5, .inl (T 0, 10, .inl nf5)), (n6, .inl (T 0, 10, .inl nf6)), (n7, .inl (T 0, 10, .inl gb)), (n8, .inl (T 0, 10, .inl gc)), (n9, .inl (T 0, 10, .inl nf9)), (n10, .inl (T 0, 10, .inl gd))] H locs → lv_has ls 11 [(6, .int (nI k23)), (5, .int x5), (4, .int yv), (3, .int (nI 0)), (0, .ref o), (1, .int seed), (2, .int (nI jd))] → W p l e (rmD 3 0 0) s m args below meth c H locs 0 0 (MQ below (gQ D A (q_x_day_f T fa o seed n n0 s0 im iz rw t0 u0 h0 y0 sv nn nm nl no nu n1 n2 n3 n4 n5 n6 n7 n8 n9 n10 nf1 nf2 nf3 nf4 nf5 nf6 nf7 nf8 nf9 nf10)) args s 0 0 A) (F0 m 23 ls []) := by
      intro fu_23
      induction fu_23 with
      | zero => intro k23 yv x5 mv uv ga gb gc gd hk23 hyv hSR hx5 hmu; exact absurd hmu (Nat.not_lt_zero _)
      | succ fu_23 ih_23 =>
        intro k23 yv x5 mv uv ga gb gc gd hk23 hyv hSR hx5 hmu_23 H locs ls V hl
        refine lv_iload hx hb dX7_day_23 (lv_at hl 0 rfl) ?_
        refine lv_iload_n hx hb dX7_day_25 rfl (lv_at hl 6 rfl) ?_
        refine lv_icmp_ge (tgt := 138) hx hb dX7_day_26 (by decide) (fun c_9 => ?_) (fun c_9 => ?_)
        · skip
          have c_9 := b_le (by omega) (by omega) c_9
          refine lv_iload hx hb dX7_day_138 (lv_at hl 1 rfl) ?_
          exact g_iret (Qr := (q_x_day_f T fa o seed n n0 s0 im iz rw t0 u0 h0 y0 sv nn nm nl no nu n1 n2 n3 n4 n5 n6 n7 n8 n9 n10 nf1 nf2 nf3 nf4 nf5 nf6 nf7 nf8 nf9 nf10)) hC V ⟨(Nat.le_of_ble_eq_true rfl), (Nat.le_of_ble_eq_true rfl)⟩ ⟨x5, mv, uv, ga, gb, gc, gd, rfl, rfl, (by rw [← (day_y (n := nn) (f := fa) (x := seed) (by rw [h_sr.2.1]; exact f_4) f_3 (by omega)).1, hx5]; congr 1; omega), (by rw [← (day_y (n := nn) (f := fa) (x := seed) (by rw [h_sr.2.1]; exact f_4) f_3 (by omega)).2]; have q := hSR; rw [show k23 = jd by omega] at q; exact q)⟩ dX7_day_140
        · skip
          have c_9 := b_nle (by omega) (by omega) c_9
          refine lv_iconst (v := (nI 0)) hx hb dX7_day_29 (by decide +kernel) ?_
          refine lv_istore (lv' := [(7, .int (nI 0)), (6, .int (nI k23)), (5, .int x5), (4, .int yv), (3, .int (nI 0)), (0, .ref o), (1, .int seed), (2, .int (nI jd))]) hx hb dX7_day_30 hl (by decide) rfl (fun ls hl => ?_)
          refine lv_iconst (v := (nI 0)) hx hb dX7_day_32 (by decide +kernel) ?_
          refine lv_istore (lv' := [(8, .int (nI 0)), (7, .int (nI 0)), (6, .int (nI k23)), (5, .int x5), (4, .int yv), (3, .int (nI 0)), (0, .ref o), (1, .int seed), (2, .int (nI jd))]) hx hb dX7_day_33 hl (by decide) rfl (fun ls hl => ?_)
          refine lv_iconst (v := (nI 0)) hx hb dX7_day_35 (by decide +kernel) ?_
          refine lv_istore (lv' := [(9, .int (nI 0)), (8, .int (nI 0)), (7, .int (nI 0)), (6, .int (nI k23)), (5, .int x5), (4, .int yv), (3, .int (nI 0)), (0, .ref o), (1, .int seed), (2, .int (nI jd))]) hx hb dX7_day_36 hl (by decide) rfl (fun ls hl => ?_)
          have L_10 : ∀ (fu : Nat) (k38 : Nat) (xv : Int32) (pv : Int32) (skv : Int32), k38 ≤ nn → xv = dyx yv k38 → pv = dyP yv k38 → skv = dyS yv k38 → nn - k38 < fu → ∀ (H : Heap) (locs : List Loc) (ls : Array Slot), gW D T A s [(o, .inr (7, [.ref n0, .ref s0, .ref im, .ref iz, .ref rw, .ref t0, .ref u0, .ref h0, .ref y0, sv])), (n0, .inr (5, [.int (nI nn), .int mv, .int nl, .int no, .int uv, .ref n1, .ref n2, .ref n3, .ref n4, .ref n5, .ref n6, .ref n7, .ref n8, .ref n9, .ref n10])), (n1, .inl (T 0, 10, .inl nf1)), (n2, .inl (T 0, 10, .inl nf2)), (n3, .inl (T 0, 10, .inl ga)), (n4, .inl (T 0, 10, .inl nf4)), (n5, .inl (T 0, 10, .inl nf5)), (n6, .inl (T 0, 10, .inl nf6)), (n7, .inl (T 0, 10, .inl gb)), (n8, .inl (T 0, 10, .inl gc)), (n9, .inl (T 0, 10, .inl nf9)), (n10, .inl (T 0, 10, .inl gd))] H locs → lv_has ls 11 [(9, .int (nI k38)), (8, .int skv), (7, .int pv), (6, .int (nI k23)), (5, .int x5), (4, .int xv), (3, .int (nI 0)), (0, .ref o), (1, .int seed), (2, .int (nI jd))] → W p l e (rmD 3 0 0) s m args below meth c H locs 0 0 (MQ below (gQ D A (q_x_day_f T fa o seed n n0 s0 im iz rw t0 u0 h0 y0 sv nn nm nl no nu n1 n2 n3 n4 n5 n6 n7 n8 n9 n10 nf1 nf2 nf3 nf4 nf5 nf6 nf7 nf8 nf9 nf10)) args s 0 0 A) (F0 m 38 ls []) := by
            intro fu_38
            induction fu_38 with
            | zero => intro k38 xv pv skv hk38 hxv hpv hsv hmu; exact absurd hmu (Nat.not_lt_zero _)
            | succ fu_38 ih_38 =>
              intro k38 xv pv skv hk38 hxv hpv hsv hmu_38 H locs ls V hl
              refine lv_iload hx hb dX7_day_38 (lv_at hl 0 rfl) ?_
              refine lv_aload_n hx hb dX7_day_40 rfl (lv_at hl 7 rfl) ?_
              refine g_get hC V (ci := 7) uwX7 0 rfl rfl 0 (by decide) w_249 rfl rfl dX7_day_41 ?_
              refine g_get hC V (ci := 5) uwX5 1 rfl rfl 0 (by decide) w_38 rfl rfl dX7_day_44 ?_
              refine lv_icmp_ge (tgt := 114) hx hb dX7_day_47 (by decide) (fun c_11 => ?_) (fun c_11 => ?_)
              · skip
                have c_11 := b_le (by omega) (by omega) c_11
                have hxn : xv = dyx yv nn := by rw [hxv]; congr 1; omega
                have hsn : skv = dyS yv nn := by rw [hsv]; congr 1; omega
                have hpn : pv = dyP yv nn := by rw [hpv]; congr 1; omega
                refine lv_iload hx hb dX7_day_114 (lv_at hl 4 rfl) ?_
                refine lv_aload_n hx hb dX7_day_116 rfl (lv_at hl 7 rfl) ?_
                refine g_get hC V (ci := 7) uwX7 0 rfl rfl 0 (by decide) w_249 rfl rfl dX7_day_117 ?_
                refine lv_iload hx hb dX7_day_120 (lv_at hl 2 rfl) ?_
                refine lv_iload hx hb dX7_day_122 (lv_at hl 1 rfl) ?_
                refine lv_iconst (v := (-1)) hx hb dX7_day_124 (by decide +kernel) ?_
                refine lv_iconst (v := (nI 0)) hx hb dX7_day_125 (by decide +kernel) ?_
                refine g_callVU (nA := 4) hC V hl.1 (s_pass_f l D T (dyI nn fa seed k23) n0 pv skv (-1) (nI 0) nn mv nl no uv n1 n2 n3 n4 n5 n6 n7 n8 n9 n10 nf1 nf2 ga nf4 nf5 nf6 gb gc nf9 gd h_n h_t (fun i hi => (hSR.2.2.2.2 i hi).1) (fun i hi => (hSR.2.2.2.2 i hi).2.1) (fun i hi => (hSR.2.2.2.2 i hi).2.2.1) (fun i hi => (hSR.2.2.2.2 i hi).2.2.2.1) (fun i hi => (hSR.2.2.2.2 i hi).2.2.2.2.1) (fun i hi => (hSR.2.2.2.2 i hi).2.2.2.2.2.1) (fun i hi => (hSR.2.2.2.2 i hi).2.2.2.2.2.2.1) (fun i hi => (hSR.2.2.2.2 i hi).2.2.2.2.2.2.2) hSR.2.2.1.symm (dyI_mi h_a _)) w_466 w_467 w_468 w_3 w_469 (by decide +kernel) rfl ⟨(Nat.le_of_ble_eq_true rfl), (Nat.le_of_ble_eq_true rfl)⟩ 1 (ci := 5) rfl rfl [1, 2, 3, 4, 5, 6, 7, 8, 9, 10, 11] rfl rfl (Nat.le_of_ble_eq_true rfl) dX7_day_126 ⟨(Nat.le_of_ble_eq_true rfl), (Nat.le_of_ble_eq_true rfl)⟩ rfl (fun r w1 H locs hQ V => ?_)
                obtain ⟨z_12, u_13, g3_14, g7_15, g8_16, g10_17, rfl, rfl, f_18, f_19, f_20, f_21⟩ := hQ
                have V : gW D T A s [(o, .inr (7, [.ref n0, .ref s0, .ref im, .ref iz, .ref rw, .ref t0, .ref u0, .ref h0, .ref y0, sv])), (n0, .inr (5, [.int (nI nn), .int (mv + (nI 1)), .int nl, .int no, .int u_13, .ref n1, .ref n2, .ref n3, .ref n4, .ref n5, .ref n6, .ref n7, .ref n8, .ref n9, .ref n10])), (n1, .inl (T 0, 10, .inl nf1)), (n2, .inl (T 0, 10, .inl nf2)), (n3, .inl (T 0, 10, .inl g3_14)), (n4, .inl (T 0, 10, .inl nf4)), (n5, .inl (T 0, 10, .inl nf5)), (n6, .inl (T 0, 10, .inl nf6)), (n7, .inl (T 0, 10, .inl g7_15)), (n8, .inl (T 0, 10, .inl g8_16)), (n9, .inl (T 0, 10, .inl nf9)), (n10, .inl (T 0, 10, .inl g10_17))] H locs := V _ [1, 0, 0, 0, 0, 0, 0, 0, 0, 0, 0] rfl rfl rfl (by decide +kernel) rfl
                show W p l e _ s m args below meth c H locs _ _ _ (F0 m 129 ls [.int z_12, .int x5])
                refine lv_iadd hx hb dX7_day_129 ?_
                refine lv_istore (lv' := [(5, .int (x5 + z_12)), (9, .int (nI k38)), (8, .int skv), (7, .int pv), (6, .int (nI k23)), (4, .int xv), (3, .int (nI 0)), (0, .ref o), (1, .int seed), (2, .int (nI jd))]) hx hb dX7_day_130 hl (by decide) rfl (fun ls hl => ?_)
                refine lv_iinc (v := (nI (k23 + 1))) (lv' := [(6, .int (nI (k23 + 1))), (5, .int (x5 + z_12)), (9, .int (nI k38)), (8, .int skv), (7, .int pv), (4, .int xv), (3, .int (nI 0)), (0, .ref o), (1, .int seed), (2, .int (nI jd))]) hx hb dX7_day_132 hl (k := 4) rfl (nI_1 _) (by decide) rfl (fun ls hl => ?_)
                refine lv_goto (tgt := 23) hx hb dX7_day_135 (by decide) ?_
                exact ih_23 (k23 + 1) xv (x5 + z_12) (mv + (nI 1)) u_13 g3_14 g7_15 g8_16 g10_17 (by omega) (by rw [hxn, hyv]; rfl) (by have q := SR_go h_n hSR f_19 f_20; rw [hpn, hsn, hyv] at q; exact q) (by rw [hx5, f_18, hsn, hyv]; rfl) (by omega) _ _ _ V (lv_sub hl [0, 1, 5, 6, 7, 8, 9] rfl)
              · skip
                have c_11 := b_nle (by omega) (by omega) c_11
                refine lv_ldc (v := (1103515245)) hx hb hown (hts _ w_561) dX7_day_50 ?_
                refine g_vi (y := (nI 1103515245)) (by decide +kernel) ?_
                refine lv_iload hx hb dX7_day_52 (lv_at hl 5 rfl) ?_
                refine lv_imul hx hb dX7_day_54 ?_
                refine lv_sipush (v := (nI 12345)) hx hb dX7_day_55 (by decide +kernel) ?_
                refine lv_iadd hx hb dX7_day_58 ?_
                have hxe : (nI 1103515245) * xv + (nI 12345) = dyx yv (k38 + 1) := by rw [hxv]; rfl
                refine lv_istore (lv' := [(4, .int (((nI 1103515245) * xv) + (nI 12345))), (9, .int (nI k38)), (8, .int skv), (7, .int pv), (6, .int (nI k23)), (5, .int x5), (3, .int (nI 0)), (0, .ref o), (1, .int seed), (2, .int (nI jd))]) hx hb dX7_day_59 hl (by decide) rfl (fun ls hl => ?_)
                refine lv_iload hx hb dX7_day_61 (lv_at hl 0 rfl) ?_
                refine lv_bipush (v := (nI 16)) hx hb dX7_day_63 (by decide +kernel) ?_
                refine lv_iushr hx hb dX7_day_65 rfl ?_
                refine lv_iconst (v := (nI 3)) hx hb dX7_day_66 (by decide +kernel) ?_
                refine lv_irem hx hb dX7_day_67 (by decide +kernel) ?_
                refine lv_istore (lv' := [(10, .int (((((((nI 1103515245) * xv) + (nI 12345))).toUInt32 >>> (((nI 16)).toUInt32 &&& Int32.toUInt32 31)).toInt32) - ((((((nI 1103515245) * xv) + (nI 12345))).toUInt32 >>> (((nI 16)).toUInt32 &&& Int32.toUInt32 31)).toInt32) / (nI 3) * (nI 3))), (4, .int (((nI 1103515245) * xv) + (nI 12345))), (9, .int (nI k38)), (8, .int skv), (7, .int pv), (6, .int (nI k23)), (5, .int x5), (3, .int (nI 0)), (0, .ref o), (1, .int seed), (2, .int (nI jd))]) hx hb dX7_day_68 hl (by decide) rfl (fun ls hl => ?_)
                refine lv_iload hx hb dX7_day_70 (lv_at hl 4 rfl) ?_
                refine lv_iload hx hb dX7_day_72 (lv_at hl 0 rfl) ?_
                refine lv_iconst (v := (nI 1)) hx hb dX7_day_74 (by decide +kernel) ?_
                refine lv_icmp_ne (tgt := 85) hx hb dX7_day_75 (by decide) (fun c_22 => ?_) (fun c_22 => ?_)
                · skip
                  refine lv_iconst (v := (nI 0)) hx hb dX7_day_85 (by decide +kernel) ?_
                  refine lv_ior hx hb dX7_day_86 ?_
                  refine lv_istore (lv' := [(7, .int (pv ||| (nI 0))), (10, .int (((((((nI 1103515245) * xv) + (nI 12345))).toUInt32 >>> (((nI 16)).toUInt32 &&& Int32.toUInt32 31)).toInt32) - ((((((nI 1103515245) * xv) + (nI 12345))).toUInt32 >>> (((nI 16)).toUInt32 &&& Int32.toUInt32 31)).toInt32) / (nI 3) * (nI 3))), (4, .int (((nI 1103515245) * xv) + (nI 12345))), (9, .int (nI k38)), (8, .int skv), (6, .int (nI k23)), (5, .int x5), (3, .int (nI 0)), (0, .ref o), (1, .int seed), (2, .int (nI jd))]) hx hb dX7_day_87 hl (by decide) rfl (fun ls hl => ?_)
                  refine lv_iload hx hb dX7_day_89 (lv_at hl 4 rfl) ?_
                  refine lv_iload hx hb dX7_day_91 (lv_at hl 1 rfl) ?_
                  refine lv_iconst (v := (nI 2)) hx hb dX7_day_93 (by decide +kernel) ?_
                  refine lv_icmp_ne (tgt := 104) hx hb dX7_day_94 (by decide) (fun c_23 => ?_) (fun c_23 => ?_)
                  · skip
                    refine lv_iconst (v := (nI 0)) hx hb dX7_day_104 (by decide +kernel) ?_
                    refine lv_ior hx hb dX7_day_105 ?_
                    refine lv_istore (lv' := [(8, .int (skv ||| (nI 0))), (7, .int (pv ||| (nI 0))), (10, .int (((((((nI 1103515245) * xv) + (nI 12345))).toUInt32 >>> (((nI 16)).toUInt32 &&& Int32.toUInt32 31)).toInt32) - ((((((nI 1103515245) * xv) + (nI 12345))).toUInt32 >>> (((nI 16)).toUInt32 &&& Int32.toUInt32 31)).toInt32) / (nI 3) * (nI 3))), (4, .int (((nI 1103515245) * xv) + (nI 12345))), (9, .int (nI k38)), (6, .int (nI k23)), (5, .int x5), (3, .int (nI 0)), (0, .ref o), (1, .int seed), (2, .int (nI jd))]) hx hb dX7_day_106 hl (by decide) rfl (fun ls hl => ?_)
                    refine lv_iinc (v := (nI (k38 + 1))) (lv' := [(9, .int (nI (k38 + 1))), (8, .int (skv ||| (nI 0))), (7, .int (pv ||| (nI 0))), (10, .int (((((((nI 1103515245) * xv) + (nI 12345))).toUInt32 >>> (((nI 16)).toUInt32 &&& Int32.toUInt32 31)).toInt32) - ((((((nI 1103515245) * xv) + (nI 12345))).toUInt32 >>> (((nI 16)).toUInt32 &&& Int32.toUInt32 31)).toInt32) / (nI 3) * (nI 3))), (4, .int (((nI 1103515245) * xv) + (nI 12345))), (6, .int (nI k23)), (5, .int x5), (3, .int (nI 0)), (0, .ref o), (1, .int seed), (2, .int (nI jd))]) hx hb dX7_day_108 hl (k := 4) rfl (nI_1 _) (by decide) rfl (fun ls hl => ?_)
                    refine lv_goto (tgt := 38) hx hb dX7_day_111 (by decide) ?_
                    exact ih_38 (k38 + 1) (((nI 1103515245) * xv) + (nI 12345)) (pv ||| (nI 0)) (skv ||| (nI 0)) (by omega) hxe (by rw [hpv]; exact (dP_n (x := yv) (fun q => c_22 (by rw [← hxe] at q; exact q)))) (by rw [hsv]; exact (dS_n (x := yv) (fun q => c_23 (by rw [← hxe] at q; exact q)))) (by omega) _ _ _ V (lv_sub hl [0, 1, 2, 5, 6, 4, 7, 8, 9, 10] rfl)
                  · skip
                    refine lv_iconst (v := (nI 1)) hx hb dX7_day_97 (by decide +kernel) ?_
                    refine lv_iload hx hb dX7_day_98 (lv_at hl 3 rfl) ?_
                    refine lv_ishl hx hb dX7_day_100 ?_
                    refine lv_goto (tgt := 105) hx hb dX7_day_101 (by decide) ?_
                    refine lv_ior hx hb dX7_day_105 ?_
                    refine lv_istore (lv' := [(8, .int (skv ||| ((nI 1) <<< ((nI k38) &&& 31)))), (7, .int (pv ||| (nI 0))), (10, .int (((((((nI 1103515245) * xv) + (nI 12345))).toUInt32 >>> (((nI 16)).toUInt32 &&& Int32.toUInt32 31)).toInt32) - ((((((nI 1103515245) * xv) + (nI 12345))).toUInt32 >>> (((nI 16)).toUInt32 &&& Int32.toUInt32 31)).toInt32) / (nI 3) * (nI 3))), (4, .int (((nI 1103515245) * xv) + (nI 12345))), (9, .int (nI k38)), (6, .int (nI k23)), (5, .int x5), (3, .int (nI 0)), (0, .ref o), (1, .int seed), (2, .int (nI jd))]) hx hb dX7_day_106 hl (by decide) rfl (fun ls hl => ?_)
                    refine lv_iinc (v := (nI (k38 + 1))) (lv' := [(9, .int (nI (k38 + 1))), (8, .int (skv ||| ((nI 1) <<< ((nI k38) &&& 31)))), (7, .int (pv ||| (nI 0))), (10, .int (((((((nI 1103515245) * xv) + (nI 12345))).toUInt32 >>> (((nI 16)).toUInt32 &&& Int32.toUInt32 31)).toInt32) - ((((((nI 1103515245) * xv) + (nI 12345))).toUInt32 >>> (((nI 16)).toUInt32 &&& Int32.toUInt32 31)).toInt32) / (nI 3) * (nI 3))), (4, .int (((nI 1103515245) * xv) + (nI 12345))), (6, .int (nI k23)), (5, .int x5), (3, .int (nI 0)), (0, .ref o), (1, .int seed), (2, .int (nI jd))]) hx hb dX7_day_108 hl (k := 4) rfl (nI_1 _) (by decide) rfl (fun ls hl => ?_)
                    refine lv_goto (tgt := 38) hx hb dX7_day_111 (by decide) ?_
                    exact ih_38 (k38 + 1) (((nI 1103515245) * xv) + (nI 12345)) (pv ||| (nI 0)) (skv ||| ((nI 1) <<< ((nI k38) &&& 31))) (by omega) hxe (by rw [hpv]; exact (dP_n (x := yv) (fun q => c_22 (by rw [← hxe] at q; exact q)))) (by rw [hsv]; exact (dS_y (x := yv) (by rw [← hxe]; exact c_23))) (by omega) _ _ _ V (lv_sub hl [0, 1, 2, 5, 6, 4, 7, 8, 9, 10] rfl)
                · skip
                  refine lv_iconst (v := (nI 1)) hx hb dX7_day_78 (by decide +kernel) ?_
                  refine lv_iload hx hb dX7_day_79 (lv_at hl 2 rfl) ?_
                  refine lv_ishl hx hb dX7_day_81 ?_
                  refine lv_goto (tgt := 86) hx hb dX7_day_82 (by decide) ?_
                  refine lv_ior hx hb dX7_day_86 ?_
                  refine lv_istore (lv' := [(7, .int (pv ||| ((nI 1) <<< ((nI k38) &&& 31)))), (10, .int (((((((nI 1103515245) * xv) + (nI 12345))).toUInt32 >>> (((nI 16)).toUInt32 &&& Int32.toUInt32 31)).toInt32) - ((((((nI 1103515245) * xv) + (nI 12345))).toUInt32 >>> (((nI 16)).toUInt32 &&& Int32.toUInt32 31)).toInt32) / (nI 3) * (nI 3))), (4, .int (((nI 1103515245) * xv) + (nI 12345))), (9, .int (nI k38)), (8, .int skv), (6, .int (nI k23)), (5, .int x5), (3, .int (nI 0)), (0, .ref o), (1, .int seed), (2, .int (nI jd))]) hx hb dX7_day_87 hl (by decide) rfl (fun ls hl => ?_)
                  refine lv_iload hx hb dX7_day_89 (lv_at hl 4 rfl) ?_
                  refine lv_iload hx hb dX7_day_91 (lv_at hl 1 rfl) ?_
                  refine lv_iconst (v := (nI 2)) hx hb dX7_day_93 (by decide +kernel) ?_
                  refine lv_icmp_ne (tgt := 104) hx hb dX7_day_94 (by decide) (fun c_24 => ?_) (fun c_24 => ?_)
                  · skip
                    refine lv_iconst (v := (nI 0)) hx hb dX7_day_104 (by decide +kernel) ?_
                    refine lv_ior hx hb dX7_day_105 ?_
                    refine lv_istore (lv' := [(8, .int (skv ||| (nI 0))), (7, .int (pv ||| ((nI 1) <<< ((nI k38) &&& 31)))), (10, .int (((((((nI 1103515245) * xv) + (nI 12345))).toUInt32 >>> (((nI 16)).toUInt32 &&& Int32.toUInt32 31)).toInt32) - ((((((nI 1103515245) * xv) + (nI 12345))).toUInt32 >>> (((nI 16)).toUInt32 &&& Int32.toUInt32 31)).toInt32) / (nI 3) * (nI 3))), (4, .int (((nI 1103515245) * xv) + (nI 12345))), (9, .int (nI k38)), (6, .int (nI k23)), (5, .int x5), (3, .int (nI 0)), (0, .ref o), (1, .int seed), (2, .int (nI jd))]) hx hb dX7_day_106 hl (by decide) rfl (fun ls hl => ?_)
                    refine lv_iinc (v := (nI (k38 + 1))) (lv' := [(9, .int (nI (k38 + 1))), (8, .int (skv ||| (nI 0))), (7, .int (pv ||| ((nI 1) <<< ((nI k38) &&& 31)))), (10, .int (((((((nI 1103515245) * xv) + (nI 12345))).toUInt32 >>> (((nI 16)).toUInt32 &&& Int32.toUInt32 31)).toInt32) - ((((((nI 1103515245) * xv) + (nI 12345))).toUInt32 >>> (((nI 16)).toUInt32 &&& Int32.toUInt32 31)).toInt32) / (nI 3) * (nI 3))), (4, .int (((nI 1103515245) * xv) + (nI 12345))), (6, .int (nI k23)), (5, .int x5), (3, .int (nI 0)), (0, .ref o), (1, .int seed), (2, .int (nI jd))]) hx hb dX7_day_108 hl (k := 4) rfl (nI_1 _) (by decide) rfl (fun ls hl => ?_)
                    refine lv_goto (tgt := 38) hx hb dX7_day_111 (by decide) ?_
                    exact ih_38 (k38 + 1) (((nI 1103515245) * xv) + (nI 12345)) (pv ||| ((nI 1) <<< ((nI k38) &&& 31))) (skv ||| (nI 0)) (by omega) hxe (by rw [hpv]; exact (dP_y (x := yv) (by rw [← hxe]; exact c_22))) (by rw [hsv]; exact (dS_n (x := yv) (fun q => c_24 (by rw [← hxe] at q; exact q)))) (by omega) _ _ _ V (lv_sub hl [0, 1, 2, 5, 6, 4, 7, 8, 9, 10] rfl)
                  · skip
                    refine lv_iconst (v := (nI 1)) hx hb dX7_day_97 (by decide +kernel) ?_
                    refine lv_iload hx hb dX7_day_98 (lv_at hl 3 rfl) ?_
                    refine lv_ishl hx hb dX7_day_100 ?_
                    refine lv_goto (tgt := 105) hx hb dX7_day_101 (by decide) ?_
                    refine lv_ior hx hb dX7_day_105 ?_
                    refine lv_istore (lv' := [(8, .int (skv ||| ((nI 1) <<< ((nI k38) &&& 31)))), (7, .int (pv ||| ((nI 1) <<< ((nI k38) &&& 31)))), (10, .int (((((((nI 1103515245) * xv) + (nI 12345))).toUInt32 >>> (((nI 16)).toUInt32 &&& Int32.toUInt32 31)).toInt32) - ((((((nI 1103515245) * xv) + (nI 12345))).toUInt32 >>> (((nI 16)).toUInt32 &&& Int32.toUInt32 31)).toInt32) / (nI 3) * (nI 3))), (4, .int (((nI 1103515245) * xv) + (nI 12345))), (9, .int (nI k38)), (6, .int (nI k23)), (5, .int x5), (3, .int (nI 0)), (0, .ref o), (1, .int seed), (2, .int (nI jd))]) hx hb dX7_day_106 hl (by decide) rfl (fun ls hl => ?_)
                    refine lv_iinc (v := (nI (k38 + 1))) (lv' := [(9, .int (nI (k38 + 1))), (8, .int (skv ||| ((nI 1) <<< ((nI k38) &&& 31)))), (7, .int (pv ||| ((nI 1) <<< ((nI k38) &&& 31)))), (10, .int (((((((nI 1103515245) * xv) + (nI 12345))).toUInt32 >>> (((nI 16)).toUInt32 &&& Int32.toUInt32 31)).toInt32) - ((((((nI 1103515245) * xv) + (nI 12345))).toUInt32 >>> (((nI 16)).toUInt32 &&& Int32.toUInt32 31)).toInt32) / (nI 3) * (nI 3))), (4, .int (((nI 1103515245) * xv) + (nI 12345))), (6, .int (nI k23)), (5, .int x5), (3, .int (nI 0)), (0, .ref o), (1, .int seed), (2, .int (nI jd))]) hx hb dX7_day_108 hl (k := 4) rfl (nI_1 _) (by decide) rfl (fun ls hl => ?_)
                    refine lv_goto (tgt := 38) hx hb dX7_day_111 (by decide) ?_
                    exact ih_38 (k38 + 1) (((nI 1103515245) * xv) + (nI 12345)) (pv ||| ((nI 1) <<< ((nI k38) &&& 31))) (skv ||| ((nI 1) <<< ((nI k38) &&& 31))) (by omega) hxe (by rw [hpv]; exact (dP_y (x := yv) (by rw [← hxe]; exact c_22))) (by rw [hsv]; exact (dS_y (x := yv) (by rw [← hxe]; exact c_24))) (by omega) _ _ _ V (lv_sub hl [0, 1, 2, 5, 6, 4, 7, 8, 9, 10] rfl)
          exact L_10 _ 0 yv (nI 0) (nI 0) (by omega) rfl rfl rfl (Nat.lt_succ_self _) _ _ _ V (lv_sub hl [0, 1, 2, 3, 4, 5, 6, 7, 8, 9] rfl)
    exact L_8 _ 0 seed (nI 0) nm nu nf3 nf7 nf8 nf10 (by omega) rfl h_sr rfl (Nat.lt_succ_self _) _ _ _ V (lv_sub hl [0, 1, 2, 3, 4, 5, 6] rfl)
  · have V : gW D T A s [(o, .inr (7, [.ref n0, .ref s0, .ref im, .ref iz, .ref rw, .ref t0, .ref u0, .ref h0, .ref y0, sv])), (n0, .inr (5, [.int (nI nn), .int nm, .int nl, .int no, .int nu, .ref n1, .ref n2, .ref n3, .ref n4, .ref n5, .ref n6, .ref n7, .ref n8, .ref n9, .ref n10])), (n1, .inl (T 0, 10, .inl nf1)), (n2, .inl (T 0, 10, .inl nf2)), (n3, .inl (T 0, 10, .inl nf3)), (n4, .inl (T 0, 10, .inl nf4)), (n5, .inl (T 0, 10, .inl nf5)), (n6, .inl (T 0, 10, .inl nf6)), (n7, .inl (T 0, 10, .inl nf7)), (n8, .inl (T 0, 10, .inl nf8)), (n9, .inl (T 0, 10, .inl nf9)), (n10, .inl (T 0, 10, .inl nf10))] H locs := V _ [0, 0] rfl rfl rfl (by decide +kernel) rfl
    show W p l e _ s m args below meth c H locs _ _ _ (F0 m 7 ls [.int z_5])
    refine lv_istore_n (lv' := [(3, .int z_5), (0, .ref o), (1, .int seed), (2, .int n)]) hx hb dX7_day_7 rfl hl (by decide) rfl (fun ls hl => ?_)
    refine lv_iload_n hx hb dX7_day_8 rfl (lv_at hl 0 rfl) ?_
    refine lv_if_eq (tgt := 14) hx hb dX7_day_9 (by decide) (fun c_25 => ?_) (fun c_25 => ?_)
    · skip
      exact (absurd c_25 (by assumption) : False).elim
    · skip
      refine lv_iload_n hx hb dX7_day_12 rfl (lv_at hl 0 rfl) ?_
      exact g_iret (Qr := (q_x_day_f T fa o seed n n0 s0 im iz rw t0 u0 h0 y0 sv nn nm nl no nu n1 n2 n3 n4 n5 n6 n7 n8 n9 n10 nf1 nf2 nf3 nf4 nf5 nf6 nf7 nf8 nf9 nf10)) hC V ⟨(Nat.le_of_ble_eq_true rfl), (Nat.le_of_ble_eq_true rfl)⟩ ⟨z_5, nm, nu, nf3, nf7, nf8, nf10, rfl, rfl, (day_n (n := nn) (f := fa) (x := seed) (by rw [h_sr.2.1]; exact f_7) f_6).1, (by rw [← (day_n (n := nn) (f := fa) (x := seed) (by rw [h_sr.2.1]; exact f_7) f_6).2]; exact h_sr)⟩ dX7_day_13
