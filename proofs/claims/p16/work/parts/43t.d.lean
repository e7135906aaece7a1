def q_x_copy_f (T : Nat → ClassId) (fq : Nat → Int32) (fm : Nat → Int32) (fn : Nat → Int64) (nf1 : Nat → Int32) (nf2 : Nat → Int32) (nf4 : Nat → Int32) (nf5 : Nat → Int32) (nf6 : Nat → Int32) (nf7 : Nat → Int32) (nf9 : Nat → Int32) (fa : Nat → Int32) (o : Nat) (row : Int32) (n0 : Nat) (s0 : Nat) (im : Nat) (iz : Nat) (rw : Nat) (t0 : Nat) (u0 : Nat) (h0 : Nat) (y0 : Nat) (sv : Value) (ra0 : Nat) (rb0 : Nat) (rc0 : Nat) (rd0 : Nat) (rah : Int32) (raz : Nat) (ra1 : Nat) (ras : Nat) (raf : Nat → Int64) (rbh : Int32) (rbz : Nat) (rb1 : Nat) (rbs : Nat) (rbf : Nat → Int64) (rch : Int32) (rcz : Nat) (rc1 : Nat) (rcs : Nat) (rcf : Nat → Int64) (rdh : Int32) (rdz : Nat) (rd1 : Nat) (rds : Nat) (rdf : Nat → Int64) (nn : Nat) (nm : Int32) (nl : Int32) (no : Int32) (nu : Int32) (n1 : Nat) (n2 : Nat) (n3 : Nat) (n4 : Nat) (n5 : Nat) (n6 : Nat) (n7 : Nat) (n8 : Nat) (n9 : Nat) (n10 : Nat) (nf3 : Nat → Int32) : Option Value → va_W → Prop := fun rr ww => (∃ (z : Int32) (raF : Nat → Int64) (rbF : Nat → Int64) (rcF : Nat → Int64) (rdF : Nat → Int64), rr = some (.int z) ∧ ww = [(o, .inr (7, [.ref n0, .ref s0, .ref im, .ref iz, .ref rw, .ref t0, .ref u0, .ref h0, .ref y0, sv])), (rw, .inl (T 5, 4, .inr (.inr (.inr (.inr (va_up (va_up (va_up (va_up (fun _ => none) 0 (some ra0)) 1 (some rb0)) 2 (some rc0)) 3 (some rd0))))))), (ra0, .inr (1, [.int rah, .int (nI raz), .ref ra1, .int (nI ras)])), (ra1, .inl (T 1, 40, .inr (.inl raF))), (rb0, .inr (1, [.int rbh, .int (nI rbz), .ref rb1, .int (nI rbs)])), (rb1, .inl (T 1, 40, .inr (.inl rbF))), (rc0, .inr (1, [.int rch, .int (nI rcz), .ref rc1, .int (nI rcs)])), (rc1, .inl (T 1, 40, .inr (.inl rcF))), (rd0, .inr (1, [.int rdh, .int (nI rdz), .ref rd1, .int (nI rds)])), (rd1, .inl (T 1, 40, .inr (.inl rdF))), (n0, .inr (5, [.int (nI nn), .int nm, .int nl, .int no, .int nu, .ref n1, .ref n2, .ref n3, .ref n4, .ref n5, .ref n6, .ref n7, .ref n8, .ref n9, .ref n10])), (n3, .inl (T 0, 10, .inl nf3))] ∧ z = cpA nn fq fm row ∧ RW 0 rah raz ras raF fq fm (cpN nn fa fn fq fm row) ∧ RW 1 rbh rbz rbs rbF fq fm (cpN nn fa fn fq fm row) ∧ RW 2 rch rcz rcs rcF fq fm (cpN nn fa fn fq fm row) ∧ RW 3 rdh rdz rds rdF fq fm (cpN nn fa fn fq fm row))
set_option maxHeartbeats 4000000 in
set_option maxRecDepth 100000 in
theorem x_copy_f (l : Launch) (D : va_G) (T : Nat → ClassId) (fq : Nat → Int32) (fm : Nat → Int32) (fn : Nat → Int64) (nf1 : Nat → Int32) (nf2 : Nat → Int32) (nf4 : Nat → Int32) (nf5 : Nat → Int32) (nf6 : Nat → Int32) (nf7 : Nat → Int32) (nf9 : Nat → Int32) (fa : Nat → Int32) (o : Nat) (row : Int32) (n0 : Nat) (s0 : Nat) (im : Nat) (iz : Nat) (rw : Nat) (t0 : Nat) (u0 : Nat) (h0 : Nat) (y0 : Nat) (sv : Value) (ra0 : Nat) (rb0 : Nat) (rc0 : Nat) (rd0 : Nat) (rah : Int32) (raz : Nat) (ra1 : Nat) (ras : Nat) (raf : Nat → Int64) (rbh : Int32) (rbz : Nat) (rb1 : Nat) (rbs : Nat) (rbf : Nat → Int64) (rch : Int32) (rcz : Nat) (rc1 : Nat) (rcs : Nat) (rcf : Nat → Int64) (rdh : Int32) (rdz : Nat) (rd1 : Nat) (rds : Nat) (rdf : Nat → Int64) (nn : Nat) (nm : Int32) (nl : Int32) (no : Int32) (nu : Int32) (n1 : Nat) (n2 : Nat) (n3 : Nat) (n4 : Nat) (n5 : Nat) (n6 : Nat) (n7 : Nat) (n8 : Nat) (n9 : Nat) (n10 : Nat) (nf3 : Nat → Int32) (h_zra : raz ≤ 40) (h_zrb : rbz ≤ 40) (h_zrc : rcz ≤ 40) (h_zrd : rdz ≤ 40) (h_sra : ras ≤ 3) (h_srb : rbs ≤ 3) (h_src : rcs ≤ 3) (h_srd : rds ≤ 3) (h_r0 : RW 0 rah raz ras raf fq fm fn) (h_r1 : RW 1 rbh rbz rbs rbf fq fm fn) (h_r2 : RW 2 rch rcz rcs rcf fq fm fn) (h_r3 : RW 3 rdh rdz rds rdf fq fm fn) (h_n : nn ≤ 10) (h_sr : SR nn nm nl no nf1 nf2 nf3 nf4 nf5 nf6 nf7 nf9 fa) : Ct l yX7_copy cX7_copy 4 (some .int) 2 0 0 D T [.ref o, .int row] [(o, .inr (7, [.ref n0, .ref s0, .ref im, .ref iz, .ref rw, .ref t0, .ref u0, .ref h0, .ref y0, sv])), (rw, .inl (T 5, 4, .inr (.inr (.inr (.inr (va_up (va_up (va_up (va_up (fun _ => none) 0 (some ra0)) 1 (some rb0)) 2 (some rc0)) 3 (some rd0))))))), (ra0, .inr (1, [.int rah, .int (nI raz), .ref ra1, .int (nI ras)])), (ra1, .inl (T 1, 40, .inr (.inl raf))), (rb0, .inr (1, [.int rbh, .int (nI rbz), .ref rb1, .int (nI rbs)])), (rb1, .inl (T 1, 40, .inr (.inl rbf))), (rc0, .inr (1, [.int rch, .int (nI rcz), .ref rc1, .int (nI rcs)])), (rc1, .inl (T 1, 40, .inr (.inl rcf))), (rd0, .inr (1, [.int rdh, .int (nI rdz), .ref rd1, .int (nI rds)])), (rd1, .inl (T 1, 40, .inr (.inl rdf))), (n0, .inr (5, [.int (nI nn), .int nm, .int nl, .int no, .int nu, .ref n1, .ref n2, .ref n3, .ref n4, .ref n5, .ref n6, .ref n7, .ref n8, .ref n9, .ref n10])), (n3, .inl (T 0, 10, .inl nf3))] (q_x_copy_f T fq fm fn nf1 nf2 nf4 nf5 nf6 nf7 nf9 fa o row n0 s0 im iz rw t0 u0 h0 y0 sv ra0 rb0 rc0 rd0 rah raz ra1 ras raf rbh rbz rb1 rbs rbf rch rcz rc1 rcs rcf rdh rdz rd1 rds rdf nn nm nl no nu n1 n2 n3 n4 n5 n6 n7 n8 n9 n10 nf3) := by
  refine Ct.of (cc := cX7_copy) (maxL := 4) (ret := (some .int)) (by decide) (Nat.le_of_ble_eq_true rfl) ?_
  intro p e s m args below meth c A ls hC hnm V hl
  obtain ⟨hx, hb, hr, hml, hown, hts, hlocks⟩ := id hC
  generalize hH : s.heap = H at V ⊢
  clear hH
  have hl : lv_has ls 4 [(0, .ref o), (1, .int row)] := hl
  generalize hlo : ([] : List Loc) = locs at V ⊢
  clear hlo
  refine lv_aload_n hx hb dX7_copy_0 rfl (lv_at hl 0 rfl) ?_
  refine lv_iload_n hx hb dX7_copy_1 rfl (lv_at hl 1 rfl) ?_
  refine g_callVU (nA := 1) hC V hl.1 (x_refusedRow l D T o row n0 s0 im iz rw t0 u0 h0 y0 sv ra0 rb0 rc0 rd0 rah raz ra1 ras raf rbh rbz rb1 rbs rbf rch rcz rc1 rcs rcf rdh rdz rd1 rds rdf) w_524 w_526 w_s11 w_2 w_527 (by decide +kernel) rfl ⟨(Nat.le_of_ble_eq_true rfl), (Nat.le_of_ble_eq_true rfl)⟩ 0 (ci := 7) rfl rfl [0, 1, 2, 3, 4, 5, 6, 7, 8, 9] rfl rfl (Nat.le_of_ble_eq_true rfl) dX7_copy_2 ⟨(Nat.le_of_ble_eq_true rfl), (Nat.le_of_ble_eq_true rfl)⟩ rfl (fun r w1 H locs hQ V => ?_)
  rcases hQ with ⟨rfl, rfl, f_1, f_2, f_3, f_4, f_5, f_6⟩ | ⟨z_7, rfl, rfl, f_8, f_9⟩
  · have V : gW D T A s [(o, .inr (7, [.ref n0, .ref s0, .ref im, .ref iz, .ref rw, .ref t0, .ref u0, .ref h0, .ref y0, sv])), (rw, .inl (T 5, 4, .inr (.inr (.inr (.inr (va_up (va_up (va_up (va_up (fun _ => none) 0 (some ra0)) 1 (some rb0)) 2 (some rc0)) 3 (some rd0))))))), (ra0, .inr (1, [.int rah, .int (nI raz), .ref ra1, .int (nI ras)])), (ra1, .inl (T 1, 40, .inr (.inl raf))), (rb0, .inr (1, [.int rbh, .int (nI rbz), .ref rb1, .int (nI rbs)])), (rb1, .inl (T 1, 40, .inr (.inl rbf))), (rc0, .inr (1, [.int rch, .int (nI rcz), .ref rc1, .int (nI rcs)])), (rc1, .inl (T 1, 40, .inr (.inl rcf))), (rd0, .inr (1, [.int rdh, .int (nI rdz), .ref rd1, .int (nI rds)])), (rd1, .inl (T 1, 40, .inr (.inl rdf))), (n0, .inr (5, [.int (nI nn), .int nm, .int nl, .int no, .int nu, .ref n1, .ref n2, .ref n3, .ref n4, .ref n5, .ref n6, .ref n7, .ref n8, .ref n9, .ref n10])), (n3, .inl (T 0, 10, .inl nf3))] H locs := V _ [0, 0, 0, 0, 0, 0, 0, 0, 0, 0] rfl rfl rfl (by decide +kernel) rfl
    show W p l e _ s m args below meth c H locs _ _ _ (F0 m 5 ls [.int (nI 0)])
    obtain ⟨j_10, hj_10, ej_10⟩ := g_idx (n := 4) (by decide) f_1 f_2
    rw [ej_10] at hl
    have hj_10 : j_10 = 0 ∨ j_10 = 1 ∨ j_10 = 2 ∨ j_10 = 3 := by omega
    rcases hj_10 with rfl | rfl | rfl | rfl
    · have hRk := RW_y h_r0 (f_3 ej_10)
      refine lv_istore_n (lv' := [(2, .int (nI 0)), (0, .ref o), (1, .int (nI 0))]) hx hb dX7_copy_5 rfl hl (by decide) rfl (fun ls hl => ?_)
      refine lv_iload_n hx hb dX7_copy_6 rfl (lv_at hl 0 rfl) ?_
      refine lv_if_eq (tgt := 12) hx hb dX7_copy_7 (by decide) (fun _ => ?_) (fun c => absurd (show (nI 0) = 0 by decide +kernel) c)
      refine lv_aload_n hx hb dX7_copy_12 rfl (lv_at hl 1 rfl) ?_
      refine g_get hC V (ci := 7) uwX7 0 rfl rfl 4 (by decide) w_253 rfl rfl dX7_copy_13 ?_
      refine lv_iload_n hx hb dX7_copy_16 rfl (lv_at hl 2 rfl) ?_
      refine g_aald hC V 1 5 rfl rfl (vp_in_nI (by decide) (by decide)) (v := .ref ra0) (by rw [nI_clamp (by decide)]; rfl) dX7_copy_17 ?_
      refine g_get hC V (ci := 1) uwX1 2 rfl rfl 1 (by decide) w_232 rfl rfl dX7_copy_18 ?_
      refine lv_aload_n hx hb dX7_copy_21 rfl (lv_at hl 1 rfl) ?_
      refine g_get hC V (ci := 7) uwX7 0 rfl rfl 0 (by decide) w_249 rfl rfl dX7_copy_22 ?_
      refine g_get hC V (ci := 5) uwX5 10 rfl rfl 0 (by decide) w_38 rfl rfl dX7_copy_25 ?_
      refine lv_icmp_ge (tgt := 34) hx hb dX7_copy_28 (by decide) (fun c_11 => ?_) (fun c_11 => ?_)
      · skip
        have c_11 := b_le (by omega) (by omega) c_11
        refine lv_iconst (v := (nI 0)) hx hb dX7_copy_34 (by decide +kernel) ?_
        refine lv_istore_n (lv' := [(3, .int (nI 0)), (2, .int (nI 0)), (0, .ref o), (1, .int (nI 0))]) hx hb dX7_copy_35 rfl hl (by decide) rfl (fun ls hl => ?_)
        have L_12 : ∀ (fu : Nat) (k36 : Nat) (raG : Nat → Int64), k36 ≤ nn → (∀ i, i < k36 → raG i = cutv ras (fa (24 + i)).toInt64) → (∀ i, k36 ≤ i → raG i = raf i) → nn - k36 < fu → ∀ (H : Heap) (locs : List Loc) (ls : Array Slot), gW D T A s [(o, .inr (7, [.ref n0, .ref s0, .ref im, .ref iz, .ref rw, .ref t0, .ref u0, .ref h0, .ref y0, sv])), (rw, .inl (T 5, 4, .inr (.inr (.inr (.inr (va_up (va_up (va_up (va_up (fun _ => none) 0 (some ra0)) 1 (some rb0)) 2 (some rc0)) 3 (some rd0))))))), (ra0, .inr (1, [.int rah, .int (nI raz), .ref ra1, .int (nI ras)])), (ra1, .inl (T 1, 40, .inr (.inl raG))), (rb0, .inr (1, [.int rbh, .int (nI rbz), .ref rb1, .int (nI rbs)])), (rb1, .inl (T 1, 40, .inr (.inl rbf))), (rc0, .inr (1, [.int rch, .int (nI rcz), .ref rc1, .int (nI rcs)])), (rc1, .inl (T 1, 40, .inr (.inl rcf))), (rd0, .inr (1, [.int rdh, .int (nI rdz), .ref rd1, .int (nI rds)])), (rd1, .inl (T 1, 40, .inr (.inl rdf))), (n0, .inr (5, [.int (nI nn), .int nm, .int nl, .int no, .int nu, .ref n1, .ref n2, .ref n3, .ref n4, .ref n5, .ref n6, .ref n7, .ref n8, .ref n9, .ref n10])), (n3, .inl (T 0, 10, .inl nf3))] H locs → lv_has ls 4 [(3, .int (nI k36)), (2, .int (nI 0)), (0, .ref o), (1, .int (nI 0))] → W p l e (rmD 2 0 0) s m args below meth c H locs 0 0 (MQ below (gQ D A (q_x_copy_f T fq fm fn nf1 nf2 nf4 nf5 nf6 nf7 nf9 fa o row n0 s0 im iz rw t0 u0 h0 y0 sv ra0 rb0 rc0 rd0 rah raz ra1 ras raf rbh rbz rb1 rbs rbf rch rcz rc1 rcs rcf rdh rdz rd1 rds rdf nn nm nl no nu n1 n2 n3 n4 n5 n6 n7 n8 n9 n10 nf3)) args s 0 0 A) (F0 m 36 ls []) := by
          intro fu_36
          induction fu_36 with
          | zero => intro k36 raG hk36 hg1 hg2 hmu; exact absurd hmu (Nat.not_lt_zero _)
          | succ fu_36 ih_36 =>
            intro k36 raG hk36 hg1 hg2 hmu_36 H locs ls V hl
            refine lv_iload_n hx hb dX7_copy_36 rfl (lv_at hl 0 rfl) ?_
            refine lv_aload_n hx hb dX7_copy_37 rfl (lv_at hl 2 rfl) ?_
            refine g_get hC V (ci := 7) uwX7 0 rfl rfl 0 (by decide) w_249 rfl rfl dX7_copy_38 ?_
            refine g_get hC V (ci := 5) uwX5 10 rfl rfl 0 (by decide) w_38 rfl rfl dX7_copy_41 ?_
            refine lv_icmp_ge (tgt := 73) hx hb dX7_copy_44 (by decide) (fun c_13 => ?_) (fun c_13 => ?_)
            · skip
              have c_13 := b_le (by omega) (by omega) c_13
              refine lv_aload_n hx hb dX7_copy_73 rfl (lv_at hl 2 rfl) ?_
              refine g_get hC V (ci := 7) uwX7 0 rfl rfl 0 (by decide) w_249 rfl rfl dX7_copy_74 ?_
              refine g_get hC V (ci := 5) uwX5 10 rfl rfl 0 (by decide) w_38 rfl rfl dX7_copy_77 ?_
              exact g_iret (Qr := (q_x_copy_f T fq fm fn nf1 nf2 nf4 nf5 nf6 nf7 nf9 fa o row n0 s0 im iz rw t0 u0 h0 y0 sv ra0 rb0 rc0 rd0 rah raz ra1 ras raf rbh rbz rb1 rbs rbf rch rcz rc1 rcs rcf rdh rdz rd1 rds rdf nn nm nl no nu n1 n2 n3 n4 n5 n6 n7 n8 n9 n10 nf3)) hC V ⟨(Nat.le_of_ble_eq_true rfl), (Nat.le_of_ble_eq_true rfl)⟩ ⟨(nI nn), raG, rbf, rcf, rdf, rfl, rfl, (by unfold cpA; rw [if_pos (rr_s ej_10 (by decide) hRk.1 (by omega)), ej_10, nI_clamp (by decide), hRk.2.1, if_neg (fun q => by have := b_lt (by omega) (by omega) q; omega)]), (RC_s (rr_s ej_10 (by decide) hRk.1 (by omega)) ej_10 (by decide) hRk.1 (by omega) hRk.2.1 (by omega) h_n (by omega) h_r0 (fun i hi => hg1 i (by omega)) (fun i hi => hg2 i (by omega))), (RC_o (rr_s ej_10 (by decide) hRk.1 (by omega)) ej_10 (by decide) hRk.1 (by omega) hRk.2.1 (by omega) h_n (by omega) (by decide) (by omega) h_r1), (RC_o (rr_s ej_10 (by decide) hRk.1 (by omega)) ej_10 (by decide) hRk.1 (by omega) hRk.2.1 (by omega) h_n (by omega) (by decide) (by omega) h_r2), (RC_o (rr_s ej_10 (by decide) hRk.1 (by omega)) ej_10 (by decide) hRk.1 (by omega) hRk.2.1 (by omega) h_n (by omega) (by decide) (by omega) h_r3)⟩ dX7_copy_80
            · skip
              have c_13 := b_nle (by omega) (by omega) c_13
              refine lv_aload_n hx hb dX7_copy_47 rfl (lv_at hl 2 rfl) ?_
              refine g_get hC V (ci := 7) uwX7 0 rfl rfl 4 (by decide) w_253 rfl rfl dX7_copy_48 ?_
              refine lv_iload_n hx hb dX7_copy_51 rfl (lv_at hl 3 rfl) ?_
              refine g_aald hC V 1 5 rfl rfl (vp_in_nI (by decide) (by decide)) (v := .ref ra0) (by rw [nI_clamp (by decide)]; rfl) dX7_copy_52 ?_
              refine lv_iload_n hx hb dX7_copy_53 rfl (lv_at hl 0 rfl) ?_
              refine lv_aload_n hx hb dX7_copy_54 rfl (lv_at hl 2 rfl) ?_
              refine g_get hC V (ci := 7) uwX7 0 rfl rfl 0 (by decide) w_249 rfl rfl dX7_copy_55 ?_
              refine g_get hC V (ci := 5) uwX5 10 rfl rfl 7 (by decide) w_65 rfl rfl dX7_copy_58 ?_
              refine lv_iload_n hx hb dX7_copy_61 rfl (lv_at hl 0 rfl) ?_
              refine g_iald hC V 11 rfl (vp_in_nI (by omega) (by omega)) (v := (nf3 k36)) (congrArg _ (nI_clamp (by omega))) dX7_copy_62 ?_
              refine lv_i2l (v := (nf3 k36).toInt64) hx hb dX7_copy_63 rfl ?_
              refine g_callVU (nA := 2) hC V hl.1 (r_put l D T ra0 k36 ((nf3 k36).toInt64) rah raz ra1 ras raG (by first | assumption | omega) (by first | assumption | omega)) w_871 w_872 w_873 w_8 w_874 (by decide +kernel) rfl ⟨(Nat.le_of_ble_eq_true rfl), (Nat.le_of_ble_eq_true rfl)⟩ 2 (ci := 1) rfl rfl [2, 3] rfl rfl (Nat.le_of_ble_eq_true rfl) dX7_copy_64 ⟨(Nat.le_of_ble_eq_true rfl), (Nat.le_of_ble_eq_true rfl)⟩ rfl (fun r w1 H locs hQ V => ?_)
              obtain ⟨rfl, rfl⟩ := hQ
              have V : gW D T A s [(o, .inr (7, [.ref n0, .ref s0, .ref im, .ref iz, .ref rw, .ref t0, .ref u0, .ref h0, .ref y0, sv])), (rw, .inl (T 5, 4, .inr (.inr (.inr (.inr (va_up (va_up (va_up (va_up (fun _ => none) 0 (some ra0)) 1 (some rb0)) 2 (some rc0)) 3 (some rd0))))))), (ra0, .inr (1, [.int rah, .int (nI raz), .ref ra1, .int (nI ras)])), (ra1, .inl (T 1, 40, .inr (.inl (vp_updL raG k36 (cutv ras ((nf3 k36).toInt64)))))), (rb0, .inr (1, [.int rbh, .int (nI rbz), .ref rb1, .int (nI rbs)])), (rb1, .inl (T 1, 40, .inr (.inl rbf))), (rc0, .inr (1, [.int rch, .int (nI rcz), .ref rc1, .int (nI rcs)])), (rc1, .inl (T 1, 40, .inr (.inl rcf))), (rd0, .inr (1, [.int rdh, .int (nI rdz), .ref rd1, .int (nI rds)])), (rd1, .inl (T 1, 40, .inr (.inl rdf))), (n0, .inr (5, [.int (nI nn), .int nm, .int nl, .int no, .int nu, .ref n1, .ref n2, .ref n3, .ref n4, .ref n5, .ref n6, .ref n7, .ref n8, .ref n9, .ref n10])), (n3, .inl (T 0, 10, .inl nf3))] H locs := V _ [2, 0] rfl rfl rfl (by decide +kernel) rfl
              show W p l e _ s m args below meth c H locs _ _ _ (F0 m 67 ls [])
              refine lv_iinc (v := (nI (k36 + 1))) (lv' := [(3, .int (nI (k36 + 1))), (2, .int (nI 0)), (0, .ref o), (1, .int (nI 0))]) hx hb dX7_copy_67 hl (k := 0) rfl (nI_1 _) (by decide) rfl (fun ls hl => ?_)
              refine lv_goto (tgt := 36) hx hb dX7_copy_70 (by decide) ?_
              exact ih_36 (k36 + 1) (vp_updL raG k36 (cutv ras ((nf3 k36).toInt64))) (by omega) (upL_one (p := fun i y => y = cutv ras (fa (24 + i)).toInt64) hg1 (by rw [(h_sr.2.2.2.2 k36 (by omega)).2.2.1])) (fun i hi => (upL_other (by omega)).trans (hg2 i (by omega))) (by omega) _ _ _ V (lv_sub hl [0, 1, 2, 3] rfl)
        exact L_12 _ 0 raf (by omega) (fun i h => absurd h (Nat.not_lt_zero _)) (fun _ _ => rfl) (Nat.lt_succ_self _) _ _ _ V (lv_sub hl [0, 1, 2, 3] rfl)
      · skip
        have c_11 := b_nle (by omega) (by omega) c_11
        refine lv_bipush (v := (-7)) hx hb dX7_copy_31 (by decide +kernel) ?_
        exact g_iret (Qr := (q_x_copy_f T fq fm fn nf1 nf2 nf4 nf5 nf6 nf7 nf9 fa o row n0 s0 im iz rw t0 u0 h0 y0 sv ra0 rb0 rc0 rd0 rah raz ra1 ras raf rbh rbz rb1 rbs rbf rch rcz rc1 rcs rcf rdh rdz rd1 rds rdf nn nm nl no nu n1 n2 n3 n4 n5 n6 n7 n8 n9 n10 nf3)) hC V ⟨(Nat.le_of_ble_eq_true rfl), (Nat.le_of_ble_eq_true rfl)⟩ ⟨(-7), raf, rbf, rcf, rdf, rfl, rfl, (cp_7 (f := fa) (fn := fn) (rr_s ej_10 (by decide) hRk.1 (by omega)) ej_10 (by decide) hRk.2.1 (by omega) (by omega) (by omega)).1, (by rw [← (cp_7 (f := fa) (fn := fn) (rr_s ej_10 (by decide) hRk.1 (by omega)) ej_10 (by decide) hRk.2.1 (by omega) (by omega) (by omega)).2]; exact h_r0), (by rw [← (cp_7 (f := fa) (fn := fn) (rr_s ej_10 (by decide) hRk.1 (by omega)) ej_10 (by decide) hRk.2.1 (by omega) (by omega) (by omega)).2]; exact h_r1), (by rw [← (cp_7 (f := fa) (fn := fn) (rr_s ej_10 (by decide) hRk.1 (by omega)) ej_10 (by decide) hRk.2.1 (by omega) (by omega) (by omega)).2]; exact h_r2), (by rw [← (cp_7 (f := fa) (fn := fn) (rr_s ej_10 (by decide) hRk.1 (by omega)) ej_10 (by decide) hRk.2.1 (by omega) (by omega) (by omega)).2]; exact h_r3)⟩ dX7_copy_33
    · have hRk := RW_y h_r1 (f_4 ej_10)
      refine lv_istore_n (lv' := [(2, .int (nI 0)), (0, .ref o), (1, .int (nI 1))]) hx hb dX7_copy_5 rfl hl (by decide) rfl (fun ls hl => ?_)
      refine lv_iload_n hx hb dX7_copy_6 rfl (lv_at hl 0 rfl) ?_
      refine lv_if_eq (tgt := 12) hx hb dX7_copy_7 (by decide) (fun _ => ?_) (fun c => absurd (show (nI 0) = 0 by decide +kernel) c)
      refine lv_aload_n hx hb dX7_copy_12 rfl (lv_at hl 1 rfl) ?_
      refine g_get hC V (ci := 7) uwX7 0 rfl rfl 4 (by decide) w_253 rfl rfl dX7_copy_13 ?_
      refine lv_iload_n hx hb dX7_copy_16 rfl (lv_at hl 2 rfl) ?_
      refine g_aald hC V 1 5 rfl rfl (vp_in_nI (by decide) (by decide)) (v := .ref rb0) (by rw [nI_clamp (by decide)]; rfl) dX7_copy_17 ?_
      refine g_get hC V (ci := 1) uwX1 4 rfl rfl 1 (by decide) w_232 rfl rfl dX7_copy_18 ?_
      refine lv_aload_n hx hb dX7_copy_21 rfl (lv_at hl 1 rfl) ?_
      refine g_get hC V (ci := 7) uwX7 0 rfl rfl 0 (by decide) w_249 rfl rfl dX7_copy_22 ?_
      refine g_get hC V (ci := 5) uwX5 10 rfl rfl 0 (by decide) w_38 rfl rfl dX7_copy_25 ?_
      refine lv_icmp_ge (tgt := 34) hx hb dX7_copy_28 (by decide) (fun c_14 => ?_) (fun c_14 => ?_)
      · skip
        have c_14 := b_le (by omega) (by omega) c_14
        refine lv_iconst (v := (nI 0)) hx hb dX7_copy_34 (by decide +kernel) ?_
        refine lv_istore_n (lv' := [(3, .int (nI 0)), (2, .int (nI 0)), (0, .ref o), (1, .int (nI 1))]) hx hb dX7_copy_35 rfl hl (by decide) rfl (fun ls hl => ?_)
        have L_15 : ∀ (fu : Nat) (k36 : Nat) (rbG : Nat → Int64), k36 ≤ nn → (∀ i, i < k36 → rbG i = cutv rbs (fa (24 + i)).toInt64) → (∀ i, k36 ≤ i → rbG i = rbf i) → nn - k36 < fu → ∀ (H : Heap) (locs : List Loc) (ls : Array Slot), gW D T A s [(o, .inr (7, [.ref n0, .ref s0, .ref im, .ref iz, .ref rw, .ref t0, .ref u0, .ref h0, .ref y0, sv])), (rw, .inl (T 5, 4, .inr (.inr (.inr (.inr (va_up (va_up (va_up (va_up (fun _ => none) 0 (some ra0)) 1 (some rb0)) 2 (some rc0)) 3 (some rd0))))))), (ra0, .inr (1, [.int rah, .int (nI raz), .ref ra1, .int (nI ras)])), (ra1, .inl (T 1, 40, .inr (.inl raf))), (rb0, .inr (1, [.int rbh, .int (nI rbz), .ref rb1, .int (nI rbs)])), (rb1, .inl (T 1, 40, .inr (.inl rbG))), (rc0, .inr (1, [.int rch, .int (nI rcz), .ref rc1, .int (nI rcs)])), (rc1, .inl (T 1, 40, .inr (.inl rcf))), (rd0, .inr (1, [.int rdh, .int (nI rdz), .ref rd1, .int (nI rds)])), (rd1, .inl (T 1, 40, .inr (.inl rdf))), (n0, .inr (5, [.int (nI nn), .int nm, .int nl, .int no, .int nu, .ref n1, .ref n2, .ref n3, .ref n4, .ref n5, .ref n6, .ref n7, .ref n8, .ref n9, .ref n10])), (n3, .inl (T 0, 10, .inl nf3))] H locs → lv_has ls 4 [(3, .int (nI k36)), (2, .int (nI 0)), (0, .ref o), (1, .int (nI 1))] → W p l e (rmD 2 0 0) s m args below meth c H locs 0 0 (MQ below (gQ D A (q_x_copy_f T fq fm fn nf1 nf2 nf4 nf5 nf6 nf7 nf9 fa o row n0 s0 im iz rw t0 u0 h0 y0 sv ra0 rb0 rc0 rd0 rah raz ra1 ras raf rbh rbz rb1 rbs rbf rch rcz rc1 rcs rcf rdh rdz rd1 rds rdf nn nm nl no nu n1 n2 n3 n4 n5 n6 n7 n8 n9 n10 nf3)) args s 0 0 A) (F0 m 36 ls []) := by
          intro fu_36
          induction fu_36 with
          | zero => intro k36 rbG hk36 hg1 hg2 hmu; exact absurd hmu (Nat.not_lt_zero _)
          | succ fu_36 ih_36 =>
            intro k36 rbG hk36 hg1 hg2 hmu_36 H locs ls V hl
            refine lv_iload_n hx hb dX7_copy_36 rfl (lv_at hl 0 rfl) ?_
            refine lv_aload_n hx hb dX7_copy_37 rfl (lv_at hl 2 rfl) ?_
            refine g_get hC V (ci := 7) uwX7 0 rfl rfl 0 (by decide) w_249 rfl rfl dX7_copy_38 ?_
            refine g_get hC V (ci := 5) uwX5 10 rfl rfl 0 (by decide) w_38 rfl rfl dX7_copy_41 ?_
            refine lv_icmp_ge (tgt := 73) hx hb dX7_copy_44 (by decide) (fun c_16 => ?_) (fun c_16 => ?_)
            · skip
              have c_16 := b_le (by omega) (by omega) c_16
              refine lv_aload_n hx hb dX7_copy_73 rfl (lv_at hl 2 rfl) ?_
              refine g_get hC V (ci := 7) uwX7 0 rfl rfl 0 (by decide) w_249 rfl rfl dX7_copy_74 ?_
              refine g_get hC V (ci := 5) uwX5 10 rfl rfl 0 (by decide) w_38 rfl rfl dX7_copy_77 ?_
              exact g_iret (Qr := (q_x_copy_f T fq fm fn nf1 nf2 nf4 nf5 nf6 nf7 nf9 fa o row n0 s0 im iz rw t0 u0 h0 y0 sv ra0 rb0 rc0 rd0 rah raz ra1 ras raf rbh rbz rb1 rbs rbf rch rcz rc1 rcs rcf rdh rdz rd1 rds rdf nn nm nl no nu n1 n2 n3 n4 n5 n6 n7 n8 n9 n10 nf3)) hC V ⟨(Nat.le_of_ble_eq_true rfl), (Nat.le_of_ble_eq_true rfl)⟩ ⟨(nI nn), raf, rbG, rcf, rdf, rfl, rfl, (by unfold cpA; rw [if_pos (rr_s ej_10 (by decide) hRk.1 (by omega)), ej_10, nI_clamp (by decide), hRk.2.1, if_neg (fun q => by have := b_lt (by omega) (by omega) q; omega)]), (RC_o (rr_s ej_10 (by decide) hRk.1 (by omega)) ej_10 (by decide) hRk.1 (by omega) hRk.2.1 (by omega) h_n (by omega) (by decide) (by omega) h_r0), (RC_s (rr_s ej_10 (by decide) hRk.1 (by omega)) ej_10 (by decide) hRk.1 (by omega) hRk.2.1 (by omega) h_n (by omega) h_r1 (fun i hi => hg1 i (by omega)) (fun i hi => hg2 i (by omega))), (RC_o (rr_s ej_10 (by decide) hRk.1 (by omega)) ej_10 (by decide) hRk.1 (by omega) hRk.2.1 (by omega) h_n (by omega) (by decide) (by omega) h_r2), (RC_o (rr_s ej_10 (by decide) hRk.1 (by omega)) ej_10 (by decide) hRk.1 (by omega) hRk.2.1 (by omega) h_n (by omega) (by decide) (by omega) h_r3)⟩ dX7_copy_80
            · skip
              have c_16 := b_nle (by omega) (by omega) c_16
              refine lv_aload_n hx hb dX7_copy_47 rfl (lv_at hl 2 rfl) ?_
              refine g_get hC V (ci := 7) uwX7 0 rfl rfl 4 (by decide) w_253 rfl rfl dX7_copy_48 ?_
              refine lv_iload_n hx hb dX7_copy_51 rfl (lv_at hl 3 rfl) ?_
              refine g_aald hC V 1 5 rfl rfl (vp_in_nI (by decide) (by decide)) (v := .ref rb0) (by rw [nI_clamp (by decide)]; rfl) dX7_copy_52 ?_
              refine lv_iload_n hx hb dX7_copy_53 rfl (lv_at hl 0 rfl) ?_
              refine lv_aload_n hx hb dX7_copy_54 rfl (lv_at hl 2 rfl) ?_
              refine g_get hC V (ci := 7) uwX7 0 rfl rfl 0 (by decide) w_249 rfl rfl dX7_copy_55 ?_
              refine g_get hC V (ci := 5) uwX5 10 rfl rfl 7 (by decide) w_65 rfl rfl dX7_copy_58 ?_
              refine lv_iload_n hx hb dX7_copy_61 rfl (lv_at hl 0 rfl) ?_
              refine g_iald hC V 11 rfl (vp_in_nI (by omega) (by omega)) (v := (nf3 k36)) (congrArg _ (nI_clamp (by omega))) dX7_copy_62 ?_
              refine lv_i2l (v := (nf3 k36).toInt64) hx hb dX7_copy_63 rfl ?_
              refine g_callVU (nA := 2) hC V hl.1 (r_put l D T rb0 k36 ((nf3 k36).toInt64) rbh rbz rb1 rbs rbG (by first | assumption | omega) (by first | assumption | omega)) w_871 w_872 w_873 w_8 w_874 (by decide +kernel) rfl ⟨(Nat.le_of_ble_eq_true rfl), (Nat.le_of_ble_eq_true rfl)⟩ 4 (ci := 1) rfl rfl [4, 5] rfl rfl (Nat.le_of_ble_eq_true rfl) dX7_copy_64 ⟨(Nat.le_of_ble_eq_true rfl), (Nat.le_of_ble_eq_true rfl)⟩ rfl (fun r w1 H locs hQ V => ?_)
              obtain ⟨rfl, rfl⟩ := hQ
              have V : gW D T A s [(o, .inr (7, [.ref n0, .ref s0, .ref im, .ref iz, .ref rw, .ref t0, .ref u0, .ref h0, .ref y0, sv])), (rw, .inl (T 5, 4, .inr (.inr (.inr (.inr (va_up (va_up (va_up (va_up (fun _ => none) 0 (some ra0)) 1 (some rb0)) 2 (some rc0)) 3 (some rd0))))))), (ra0, .inr (1, [.int rah, .int (nI raz), .ref ra1, .int (nI ras)])), (ra1, .inl (T 1, 40, .inr (.inl raf))), (rb0, .inr (1, [.int rbh, .int (nI rbz), .ref rb1, .int (nI rbs)])), (rb1, .inl (T 1, 40, .inr (.inl (vp_updL rbG k36 (cutv rbs ((nf3 k36).toInt64)))))), (rc0, .inr (1, [.int rch, .int (nI rcz), .ref rc1, .int (nI rcs)])), (rc1, .inl (T 1, 40, .inr (.inl rcf))), (rd0, .inr (1, [.int rdh, .int (nI rdz), .ref rd1, .int (nI rds)])), (rd1, .inl (T 1, 40, .inr (.inl rdf))), (n0, .inr (5, [.int (nI nn), .int nm, .int nl, .int no, .int nu, .ref n1, .ref n2, .ref n3, .ref n4, .ref n5, .ref n6, .ref n7, .ref n8, .ref n9, .ref n10])), (n3, .inl (T 0, 10, .inl nf3))] H locs := V _ [4, 0] rfl rfl rfl (by decide +kernel) rfl
              show W p l e _ s m args below meth c H locs _ _ _ (F0 m 67 ls [])
              refine lv_iinc (v := (nI (k36 + 1))) (lv' := [(3, .int (nI (k36 + 1))), (2, .int (nI 0)), (0, .ref o), (1, .int (nI 1))]) hx hb dX7_copy_67 hl (k := 0) rfl (nI_1 _) (by decide) rfl (fun ls hl => ?_)
              refine lv_goto (tgt := 36) hx hb dX7_copy_70 (by decide) ?_
              exact ih_36 (k36 + 1) (vp_updL rbG k36 (cutv rbs ((nf3 k36).toInt64))) (by omega) (upL_one (p := fun i y => y = cutv rbs (fa (24 + i)).toInt64) hg1 (by rw [(h_sr.2.2.2.2 k36 (by omega)).2.2.1])) (fun i hi => (upL_other (by omega)).trans (hg2 i (by omega))) (by omega) _ _ _ V (lv_sub hl [0, 1, 2, 3] rfl)
        exact L_15 _ 0 rbf (by omega) (fun i h => absurd h (Nat.not_lt_zero _)) (fun _ _ => rfl) (Nat.lt_succ_self _) _ _ _ V (lv_sub hl [0, 1, 2, 3] rfl)
      · skip
        have c_14 := b_nle (by omega) (by omega) c_14
        refine lv_bipush (v := (-7)) hx hb dX7_copy_31 (by decide +kernel) ?_
        exact g_iret (Qr := (q_x_copy_f T fq fm fn nf1 nf2 nf4 nf5 nf6 nf7 nf9 fa o row n0 s0 im iz rw t0 u0 h0 y0 sv ra0 rb0 rc0 rd0 rah raz ra1 ras raf rbh rbz rb1 rbs rbf rch rcz rc1 rcs rcf rdh rdz rd1 rds rdf nn nm nl no nu n1 n2 n3 n4 n5 n6 n7 n8 n9 n10 nf3)) hC V ⟨(Nat.le_of_ble_eq_true rfl), (Nat.le_of_ble_eq_true rfl)⟩ ⟨(-7), raf, rbf, rcf, rdf, rfl, rfl, (cp_7 (f := fa) (fn := fn) (rr_s ej_10 (by decide) hRk.1 (by omega)) ej_10 (by decide) hRk.2.1 (by omega) (by omega) (by omega)).1, (by rw [← (cp_7 (f := fa) (fn := fn) (rr_s ej_10 (by decide) hRk.1 (by omega)) ej_10 (by decide) hRk.2.1 (by omega) (by omega) (by omega)).2]; exact h_r0), (by rw [← (cp_7 (f := fa) (fn := fn) (rr_s ej_10 (by decide) hRk.1 (by omega)) ej_10 (by decide) hRk.2.1 (by omega) (by omega) (by omega)).2]; exact h_r1), (by rw [← (cp_7 (f := fa) (fn := fn) (rr_s ej_10 (by decide) hRk.1 (by omega)) ej_10 (by decide) hRk.2.1 (by omega) (by omega) (by omega)).2]; exact h_r2), (by rw [← (cp_7 (f := fa) (fn := fn) (rr_s ej_10 (by decide) hRk.1 (by omega)) ej_10 (by decide) hRk.2.1 (by omega) (by omega) (by omega)).2]; exact h_r3)⟩ dX7_copy_33
    · have hRk := RW_y h_r2 (f_5 ej_10)
      refine lv_istore_n (lv' := [(2, .int (nI 0)), (0, .ref o), (1, .int (nI 2))]) hx hb dX7_copy_5 rfl hl (by decide) rfl (fun ls hl => ?_)
      refine lv_iload_n hx hb dX7_copy_6 rfl (lv_at hl 0 rfl) ?_
      refine lv_if_eq (tgt := 12) hx hb dX7_copy_7 (by decide) (fun _ => ?_) (fun c => absurd (show (nI 0) = 0 by decide +kernel) c)
      refine lv_aload_n hx hb dX7_copy_12 rfl (lv_at hl 1 rfl) ?_
      refine g_get hC V (ci := 7) uwX7 0 rfl rfl 4 (by decide) w_253 rfl rfl dX7_copy_13 ?_
      refine lv_iload_n hx hb dX7_copy_16 rfl (lv_at hl 2 rfl) ?_
      refine g_aald hC V 1 5 rfl rfl (vp_in_nI (by decide) (by decide)) (v := .ref rc0) (by rw [nI_clamp (by decide)]; rfl) dX7_copy_17 ?_
      refine g_get hC V (ci := 1) uwX1 6 rfl rfl 1 (by decide) w_232 rfl rfl dX7_copy_18 ?_
      refine lv_aload_n hx hb dX7_copy_21 rfl (lv_at hl 1 rfl) ?_
      refine g_get hC V (ci := 7) uwX7 0 rfl rfl 0 (by decide) w_249 rfl rfl dX7_copy_22 ?_
      refine g_get hC V (ci := 5) uwX5 10 rfl rfl 0 (by decide) w_38 rfl rfl dX7_copy_25 ?_
      refine lv_icmp_ge (tgt := 34) hx hb dX7_copy_28 (by decide) (fun c_17 => ?_) (fun c_17 => ?_)
      · skip
        have c_17 := b_le (by omega) (by omega) c_17
        refine lv_iconst (v := (nI 0)) hx hb dX7_copy_34 (by decide +kernel) ?_
        refine lv_istore_n (lv' := [(3, .int (nI 0)), (2, .int (nI 0)), (0, .ref o), (1, .int (nI 2))]) hx hb dX7_copy_35 rfl hl (by decide) rfl (fun ls hl => ?_)
        have L_18 : ∀ (fu : Nat) (k36 : Nat) (rcG : Nat → Int64), k36 ≤ nn → (∀ i, i < k36 → rcG i = cutv rcs (fa (24 + i)).toInt64) → (∀ i, k36 ≤ i → rcG i = rcf i) → nn - k36 < fu → ∀ (H : Heap) (locs : List Loc) (ls : Array Slot), gW D T A s [(o, .inr (7, [.ref n0, .ref s0, .ref im, .ref iz, .ref rw, .ref t0, .ref u0, .ref h0, .ref y0, sv])), (rw, .inl (T 5, 4, .inr (.inr (.inr (.inr (va_up (va_up (va_up (va_up (fun _ => none) 0 (some ra0)) 1 (some rb0)) 2 (some rc0)) 3 (some rd0))))))), (ra0, .inr (1, [.int rah, .int (nI raz), .ref ra1, .int (nI ras)])), (ra1, .inl (T 1, 40, .inr (.inl raf))), (rb0, .inr (1, [.int rbh, .int (nI rbz), .ref rb1, .int (nI rbs)])), (rb1, .inl (T 1, 40, .inr (.inl rbf))), (rc0, .inr (1, [.int rch, .int (nI rcz), .ref rc1, .int (nI rcs)])), (rc1, .inl (T 1, 40, .inr (.inl rcG))), (rd0, .inr (1, [.int rdh, .int (nI rdz), .ref rd1, .int (nI rds)])), (rd1, .inl (T 1, 40, .inr (.inl rdf))), (n0, .inr (5, [.int (nI nn), .int nm, .int nl, .int no, .int nu, .ref n1, .ref n2, .ref n3, .ref n4, .ref n5, .ref n6, .ref n7, .ref n8, .ref n9, .ref n10])), (n3, .inl (T 0, 10, .inl nf3))] H locs → lv_has ls 4 [(3, .int (nI k36)), (2, .int (nI 0)), (0, .ref o), (1, .int (nI 2))] → W p l e (rmD 2 0 0) s m args below meth c H locs 0 0 (MQ below (gQ D A (q_x_copy_f T fq fm fn nf1 nf2 nf4 nf5 nf6 nf7 nf9 fa o row n0 s0 im iz rw t0 u0 h0 y0 sv ra0 rb0 rc0 rd0 rah raz ra1 ras raf rbh rbz rb1 rbs rbf rch rcz rc1 rcs rcf rdh rdz rd1 rds rdf nn nm nl no nu n1 n2 n3 n4 n5 n6 n7 n8 n9 n10 nf3)) args s 0 0 A) (F0 m 36 ls []) := by
          intro fu_36
          induction fu_36 with
          | zero => intro k36 rcG hk36 hg1 hg2 hmu; exact absurd hmu (Nat.not_lt_zero _)
          | succ fu_36 ih_36 =>
            intro k36 rcG hk36 hg1 hg2 hmu_36 H locs ls V hl
            refine lv_iload_n hx hb dX7_copy_36 rfl (lv_at hl 0 rfl) ?_
            refine lv_aload_n hx hb dX7_copy_37 rfl (lv_at hl 2 rfl) ?_
            refine g_get hC V (ci := 7) uwX7 0 rfl rfl 0 (by decide) w_249 rfl rfl dX7_copy_38 ?_
            refine g_get hC V (ci := 5) uwX5 10 rfl rfl 0 (by decide) w_38 rfl rfl dX7_copy_41 ?_
            refine lv_icmp_ge (tgt := 73) hx hb dX7_copy_44 (by decide) (fun c_19 => ?_) (fun c_19 => ?_)
            · skip
              have c_19 := b_le (by omega) (by omega) c_19
              refine lv_aload_n hx hb dX7_copy_73 rfl (lv_at hl 2 rfl) ?_
              refine g_get hC V (ci := 7) uwX7 0 rfl rfl 0 (by decide) w_249 rfl rfl dX7_copy_74 ?_
              refine g_get hC V (ci := 5) uwX5 10 rfl rfl 0 (by decide) w_38 rfl rfl dX7_copy_77 ?_
              exact g_iret (Qr := (q_x_copy_f T fq fm fn nf1 nf2 nf4 nf5 nf6 nf7 nf9 fa o row n0 s0 im iz rw t0 u0 h0 y0 sv ra0 rb0 rc0 rd0 rah raz ra1 ras raf rbh rbz rb1 rbs rbf rch rcz rc1 rcs rcf rdh rdz rd1 rds rdf nn nm nl no nu n1 n2 n3 n4 n5 n6 n7 n8 n9 n10 nf3)) hC V ⟨(Nat.le_of_ble_eq_true rfl), (Nat.le_of_ble_eq_true rfl)⟩ ⟨(nI nn), raf, rbf, rcG, rdf, rfl, rfl, (by unfold cpA; rw [if_pos (rr_s ej_10 (by decide) hRk.1 (by omega)), ej_10, nI_clamp (by decide), hRk.2.1, if_neg (fun q => by have := b_lt (by omega) (by omega) q; omega)]), (RC_o (rr_s ej_10 (by decide) hRk.1 (by omega)) ej_10 (by decide) hRk.1 (by omega) hRk.2.1 (by omega) h_n (by omega) (by decide) (by omega) h_r0), (RC_o (rr_s ej_10 (by decide) hRk.1 (by omega)) ej_10 (by decide) hRk.1 (by omega) hRk.2.1 (by omega) h_n (by omega) (by decide) (by omega) h_r1), (RC_s (rr_s ej_10 (by decide) hRk.1 (by omega)) ej_10 (by decide) hRk.1 (by omega) hRk.2.1 (by omega) h_n (by omega) h_r2 (fun i hi => hg1 i (by omega)) (fun i hi => hg2 i (by omega))), (RC_o (rr_s ej_10 (by decide) hRk.1 (by omega)) ej_10 (by decide) hRk.1 (by omega) hRk.2.1 (by omega) h_n (by omega) (by decide) (by omega) h_r3)⟩ dX7_copy_80
            · skip
              have c_19 := b_nle (by omega) (by omega) c_19
              refine lv_aload_n hx hb dX7_copy_47 rfl (lv_at hl 2 rfl) ?_
              refine g_get hC V (ci := 7) uwX7 0 rfl rfl 4 (by decide) w_253 rfl rfl dX7_copy_48 ?_
              refine lv_iload_n hx hb dX7_copy_51 rfl (lv_at hl 3 rfl) ?_
              refine g_aald hC V 1 5 rfl rfl (vp_in_nI (by decide) (by decide)) (v := .ref rc0) (by rw [nI_clamp (by decide)]; rfl) dX7_copy_52 ?_
              refine lv_iload_n hx hb dX7_copy_53 rfl (lv_at hl 0 rfl) ?_
              refine lv_aload_n hx hb dX7_copy_54 rfl (lv_at hl 2 rfl) ?_
              refine g_get hC V (ci := 7) uwX7 0 rfl rfl 0 (by decide) w_249 rfl rfl dX7_copy_55 ?_
              refine g_get hC V (ci := 5) uwX5 10 rfl rfl 7 (by decide) w_65 rfl rfl dX7_copy_58 ?_
              refine lv_iload_n hx hb dX7_copy_61 rfl (lv_at hl 0 rfl) ?_
              refine g_iald hC V 11 rfl (vp_in_nI (by omega) (by omega)) (v := (nf3 k36)) (congrArg _ (nI_clamp (by omega))) dX7_copy_62 ?_
              refine lv_i2l (v := (nf3 k36).toInt64) hx hb dX7_copy_63 rfl ?_
              refine g_callVU (nA := 2) hC V hl.1 (r_put l D T rc0 k36 ((nf3 k36).toInt64) rch rcz rc1 rcs rcG (by first | assumption | omega) (by first | assumption | omega)) w_871 w_872 w_873 w_8 w_874 (by decide +kernel) rfl ⟨(Nat.le_of_ble_eq_true rfl), (Nat.le_of_ble_eq_true rfl)⟩ 6 (ci := 1) rfl rfl [6, 7] rfl rfl (Nat.le_of_ble_eq_true rfl) dX7_copy_64 ⟨(Nat.le_of_ble_eq_true rfl), (Nat.le_of_ble_eq_true rfl)⟩ rfl (fun r w1 H locs hQ V => ?_)
              obtain ⟨rfl, rfl⟩ := hQ
              have V : gW D T A s [(o, .inr (7, [.ref n0, .ref s0, .ref im, .ref iz, .ref rw, .ref t0, .ref u0, .ref h0, .ref y0, sv])), (rw, .inl (T 5, 4, .inr (.inr (.inr (.inr (va_up (va_up (va_up (va_up (fun _ => none) 0 (some ra0)) 1 (some rb0)) 2 (some rc0)) 3 (some rd0))))))), (ra0, .inr (1, [.int rah, .int (nI raz), .ref ra1, .int (nI ras)])), (ra1, .inl (T 1, 40, .inr (.inl raf))), (rb0, .inr (1, [.int rbh, .int (nI rbz), .ref rb1, .int (nI rbs)])), (rb1, .inl (T 1, 40, .inr (.inl rbf))), (rc0, .inr (1, [.int rch, .int (nI rcz), .ref rc1, .int (nI rcs)])), (rc1, .inl (T 1, 40, .inr (.inl (vp_updL rcG k36 (cutv rcs ((nf3 k36).toInt64)))))), (rd0, .inr (1, [.int rdh, .int (nI rdz), .ref rd1, .int (nI rds)])), (rd1, .inl (T 1, 40, .inr (.inl rdf))), (n0, .inr (5, [.int (nI nn), .int nm, .int nl, .int no, .int nu, .ref n1, .ref n2, .ref n3, .ref n4, .ref n5, .ref n6, .ref n7, .ref n8, .ref n9, .ref n10])), (n3, .inl (T 0, 10, .inl nf3))] H locs := V _ [6, 0] rfl rfl rfl (by decide +kernel) rfl
              show W p l e _ s m args below meth c H locs _ _ _ (F0 m 67 ls [])
              refine lv_iinc (v := (nI (k36 + 1))) (lv' := [(3, .int (nI (k36 + 1))), (2, .int (nI 0)), (0, .ref o), (1, .int (nI 2))]) hx hb dX7_copy_67 hl (k := 0) rfl (nI_1 _) (by decide) rfl (fun ls hl => ?_)
              refine lv_goto (tgt := 36) hx hb dX7_copy_70 (by decide) ?_
              exact ih_36 (k36 + 1) (vp_updL rcG k36 (cutv rcs ((nf3 k36).toInt64))) (by omega) (upL_one (p := fun i y => y = cutv rcs (fa (24 + i)).toInt64) hg1 (by rw [(h_sr.2.2.2.2 k36 (by omega)).2.2.1])) (fun i hi => (upL_other (by omega)).trans (hg2 i (by omega))) (by omega) _ _ _ V (lv_sub hl [0, 1, 2, 3] rfl)
        exact L_18 _ 0 rcf (by omega) (fun i h => absurd h (Nat.not_lt_zero _)) (fun _ _ => rfl) (Nat.lt_succ_self _) _ _ _ V (lv_sub hl [0, 1, 2, 3] rfl)
      · skip
        have c_17 := b_nle (by omega) (by omega) c_17
        refine lv_bipush (v := (-7)) hx hb dX7_copy_31 (by decide +kernel) ?_
        exact g_iret (Qr := (q_x_copy_f T fq fm fn nf1 nf2 nf4 nf5 nf6 nf7 nf9 fa o row n0 s0 im iz rw t0 u0 h0 y0 sv ra0 rb0 rc0 rd0 rah raz ra1 ras raf rbh rbz rb1 rbs rbf rch rcz rc1 rcs rcf rdh rdz rd1 rds rdf nn nm nl no nu n1 n2 n3 n4 n5 n6 n7 n8 n9 n10 nf3)) hC V ⟨(Nat.le_of_ble_eq_true rfl), (Nat.le_of_ble_eq_true rfl)⟩ ⟨(-7), raf, rbf, rcf, rdf, rfl, rfl, (cp_7 (f := fa) (fn := fn) (rr_s ej_10 (by decide) hRk.1 (by omega)) ej_10 (by decide) hRk.2.1 (by omega) (by omega) (by omega)).1, (by rw [← (cp_7 (f := fa) (fn := fn) (rr_s ej_10 (by decide) hRk.1 (by omega)) ej_10 (by decide) hRk.2.1 (by omega) (by omega) (by omega)).2]; exact h_r0), (by rw [← (cp_7 (f := fa) (fn := fn) (rr_s ej_10 (by decide) hRk.1 (by omega)) ej_10 (by decide) hRk.2.1 (by omega) (by omega) (by omega)).2]; exact h_r1), (by rw [← (cp_7 (f := fa) (fn := fn) (rr_s ej_10 (by decide) hRk.1 (by omega)) ej_10 (by decide) hRk.2.1 (by omega) (by omega) (by omega)).2]; exact h_r2), (by rw [← (cp_7 (f := fa) (fn := fn) (rr_s ej_10 (by decide) hRk.1 (by omega)) ej_10 (by decide) hRk.2.1 (by omega) (by omega) (by omega)).2]; exact h_r3)⟩ dX7_copy_33
    · have hRk := RW_y h_r3 (f_6 ej_10)
      refine lv_istore_n (lv' := [(2, .int (nI 0)), (0, .ref o), (1, .int (nI 3))]) hx hb dX7_copy_5 rfl hl (by decide) rfl (fun ls hl => ?_)
      refine lv_iload_n hx hb dX7_copy_6 rfl (lv_at hl 0 rfl) ?_
      refine lv_if_eq (tgt := 12) hx hb dX7_copy_7 (by decide) (fun _ => ?_) (fun c => absurd (show (nI 0) = 0 by decide +kernel) c)
      refine lv_aload_n hx hb dX7_copy_12 rfl (lv_at hl 1 rfl) ?_
      refine g_get hC V (ci := 7) uwX7 0 rfl rfl 4 (by decide) w_253 rfl rfl dX7_copy_13 ?_
      refine lv_iload_n hx hb dX7_copy_16 rfl (lv_at hl 2 rfl) ?_
      refine g_aald hC V 1 5 rfl rfl (vp_in_nI (by decide) (by decide)) (v := .ref rd0) (by rw [nI_clamp (by decide)]; rfl) dX7_copy_17 ?_
      refine g_get hC V (ci := 1) uwX1 8 rfl rfl 1 (by decide) w_232 rfl rfl dX7_copy_18 ?_
      refine lv_aload_n hx hb dX7_copy_21 rfl (lv_at hl 1 rfl) ?_
      refine g_get hC V (ci := 7) uwX7 0 rfl rfl 0 (by decide) w_249 rfl rfl dX7_copy_22 ?_
      refine g_get hC V (ci := 5) uwX5 10 rfl rfl 0 (by decide) w_38 rfl rfl dX7_copy_25 ?_
      refine lv_icmp_ge (tgt := 34) hx hb dX7_copy_28 (by decide) (fun c_20 => ?_) (fun c_20 => ?_)
      · skip
        have c_20 := b_le (by omega) (by omega) c_20
        refine lv_iconst (v := (nI 0)) hx hb dX7_copy_34 (by decide +kernel) ?_
        refine lv_istore_n (lv' := [(3, .int (nI 0)), (2, .int (nI 0)), (0, .ref o), (1, .int (nI 3))]) hx hb dX7_copy_35 rfl hl (by decide) rfl (fun ls hl => ?_)
        have L_21 : ∀ (fu : Nat) (k36 : Nat) (rdG : Nat → Int64), k36 ≤ nn → (∀ i, i < k36 → rdG i = cutv rds (fa (24 + i)).toInt64) → (∀ i, k36 ≤ i → rdG i = rdf i) → nn - k36 < fu → ∀ (H : Heap) (locs : List Loc) (ls : Array Slot), gW D T A s [(o, .inr (7, [.ref n0, .ref s0, .ref im, .ref iz, .ref rw, .ref t0, .ref u0, .ref h0, .ref y0, sv])), (rw, .inl (T 5, 4, .inr (.inr (.inr (.inr (va_up (va_up (va_up (va_up (fun _ => none) 0 (some ra0)) 1 (some rb0)) 2 (some rc0)) 3 (some rd0))))))), (ra0, .inr (1, [.int rah, .int (nI raz), .ref ra1, .int (nI ras)])), (ra1, .inl (T 1, 40, .inr (.inl raf))), (rb0, .inr (1, [.int rbh, .int (nI rbz), .ref rb1, .int (nI rbs)])), (rb1, .inl (T 1, 40, .inr (.inl rbf))), (rc0, .inr (1, [.int rch, .int (nI rcz), .ref rc1, .int (nI rcs)])), (rc1, .inl (T 1, 40, .inr (.inl rcf))), (rd0, .inr (1, [.int rdh, .int (nI rdz), .ref rd1, .int (nI rds)])), (rd1, .inl (T 1, 40, .inr (.inl rdG))), (n0, .inr (5, [.int (nI nn), .int nm, .int nl, .int no, .int nu, .ref n1, .ref n2, .ref n3, .ref n4, .ref n5, .ref n6, .ref n7, .ref n8, .ref n9, .ref n10])), (n3, .inl (T 0, 10, .inl nf3))] H locs → lv_has ls 4 [(3, .int (nI k36)), (2, .int (nI 0)), (0, .ref o), (1, .int (nI 3))] → W p l e (rmD 2 0 0) s m args below meth c H locs 0 0 (MQ below (gQ D A (q_x_copy_f T fq fm fn nf1 nf2 nf4 nf5 nf6 nf7 nf9 fa o row n0 s0 im iz rw t0 u0 h0 y0 sv ra0 rb0 rc0 rd0 rah raz ra1 ras raf rbh rbz rb1 rbs rbf rch rcz rc1 rcs rcf rdh rdz rd1 rds rdf nn nm nl no nu n1 n2 n3 n4 n5 n6 n7 n8 n9 n10 nf3)) args s 0 0 A) (F0 m 36 ls []) := by
          intro fu_36
          induction fu_36 with
          | zero => intro k36 rdG hk36 hg1 hg2 hmu; exact absurd hmu (Nat.not_lt_zero _)
          | succ fu_36 ih_36 =>
            intro k36 rdG hk36 hg1 hg2 hmu_36 H locs ls V hl
            refine lv_iload_n hx hb dX7_copy_36 rfl (lv_at hl 0 rfl) ?_
            refine lv_aload_n hx hb dX7_copy_37 rfl (lv_at hl 2 rfl) ?_
            refine g_get hC V (ci := 7) uwX7 0 rfl rfl 0 (by decide) w_249 rfl rfl dX7_copy_38 ?_
            refine g_get hC V (ci := 5) uwX5 10 rfl rfl 0 (by decide) w_38 rfl rfl dX7_copy_41 ?_
            refine lv_icmp_ge (tgt := 73) hx hb dX7_copy_44 (by decide) (fun c_22 => ?_) (fun c_22 => ?_)
            · skip
              have c_22 := b_le (by omega) (by omega) c_22
              refine lv_aload_n hx hb dX7_copy_73 rfl (lv_at hl 2 rfl) ?_
              refine g_get hC V (ci := 7) uwX7 0 rfl rfl 0 (by decide) w_249 rfl rfl dX7_copy_74 ?_
              refine g_get hC V (ci := 5) uwX5 10 rfl rfl 0 (by decide) w_38 rfl rfl dX7_copy_77 ?_
              exact g_iret (Qr := (q_x_copy_f T fq fm fn nf1 nf2 nf4 nf5 nf6 nf7 nf9 fa o row n0 s0 im iz rw t0 u0 h0 y0 sv ra0 rb0 rc0 rd0 rah raz ra1 ras raf rbh rbz rb1 rbs rbf rch rcz rc1 rcs rcf rdh rdz rd1 rds rdf nn nm nl no nu n1 n2 n3 n4 n5 n6 n7 n8 n9 n10 nf3)) hC V ⟨(Nat.le_of_ble_eq_true rfl), (Nat.le_of_ble_eq_true rfl)⟩ ⟨(nI nn), raf, rbf, rcf, rdG, rfl, rfl, (by unfold cpA; rw [if_pos (rr_s ej_10 (by decide) hRk.1 (by omega)), ej_10, nI_clamp (by decide), hRk.2.1, if_neg (fun q => by have := b_lt (by omega) (by omega) q; omega)]), (RC_o (rr_s ej_10 (by decide) hRk.1 (by omega)) ej_10 (by decide) hRk.1 (by omega) hRk.2.1 (by omega) h_n (by omega) (by decide) (by omega) h_r0), (RC_o (rr_s ej_10 (by decide) hRk.1 (by omega)) ej_10 (by decide) hRk.1 (by omega) hRk.2.1 (by omega) h_n (by omega) (by decide) (by omega) h_r1), (RC_o (rr_s ej_10 (by decide) hRk.1 (by omega)) ej_10 (by decide) hRk.1 (by omega) hRk.2.1 (by omega) h_n (by omega) (by decide) (by omega) h_r2), (RC_s (rr_s ej_10 (by decide) hRk.1 (by omega)) ej_10 (by decide) hRk.1 (by omega) hRk.2.1 (by omega) h_n (by omega) h_r3 (fun i hi => hg1 i (by omega)) (fun i hi => hg2 i (by omega)))⟩ dX7_copy_80
            · skip
              have c_22 := b_nle (by omega) (by omega) c_22
              refine lv_aload_n hx hb dX7_copy_47 rfl (lv_at hl 2 rfl) ?_
              refine g_get hC V (ci := 7) uwX7 0 rfl rfl 4 (by decide) w_253 rfl rfl dX7_copy_48 ?_
              refine lv_iload_n hx hb dX7_copy_51 rfl (lv_at hl 3 rfl) ?_
              refine g_aald hC V 1 5 rfl rfl (vp_in_nI (by decide) (by decide)) (v := .ref rd0) (by rw [nI_clamp (by decide)]; rfl) dX7_copy_52 ?_
              refine lv_iload_n hx hb dX7_copy_53 rfl (lv_at hl 0 rfl) ?_
              refine lv_aload_n hx hb dX7_copy_54 rfl (lv_at hl 2 rfl) ?_
              refine g_get hC V (ci := 7) uwX7 0 rfl rfl 0 (by decide) w_249 rfl rfl dX7_copy_55 ?_
              refine g_get hC V (ci := 5) uwX5 10 rfl rfl 7 (by decide) w_65 rfl rfl dX7_copy_58 ?_
              refine lv_iload_n hx hb dX7_copy_61 rfl (lv_at hl 0 rfl) ?_
              refine g_iald hC V 11 rfl (vp_in_nI (by omega) (by omega)) (v := (nf3 k36)) (congrArg _ (nI_clamp (by omega))) dX7_copy_62 ?_
              refine lv_i2l (v := (nf3 k36).toInt64) hx hb dX7_copy_63 rfl ?_
              refine g_callVU (nA := 2) hC V hl.1 (r_put l D T rd0 k36 ((nf3 k36).toInt64) rdh rdz rd1 rds rdG (by first | assumption | omega) (by first | assumption | omega)) w_871 w_872 w_873 w_8 w_874 (by decide +kernel) rfl ⟨(Nat.le_of_ble_eq_true rfl), (Nat.le_of_ble_eq_true rfl)⟩ 8 (ci := 1) rfl rfl [8, 9] rfl rfl (Nat.le_of_ble_eq_true rfl) dX7_copy_64 ⟨(Nat.le_of_ble_eq_true rfl), (Nat.le_of_ble_eq_true rfl)⟩ rfl (fun r w1 H locs hQ V => ?_)
              obtain ⟨rfl, rfl⟩ := hQ
              have V : gW D T A s [(o, .inr (7, [.ref n0, .ref s0, .ref im, .ref iz, .ref rw, .ref t0, .ref u0, .ref h0, .ref y0, sv])), (rw, .inl (T 5, 4, .inr (.inr (.inr (.inr (va_up (va_up (va_up (va_up (fun _ => none) 0 (some ra0)) 1 (some rb0)) 2 (some rc0)) 3 (some rd0))))))), (ra0, .inr (1, [.int rah, .int (nI raz), .ref ra1, .int (nI ras)])), (ra1, .inl (T 1, 40, .inr (.inl raf))), (rb0, .inr (1, [.int rbh, .int (nI rbz), .ref rb1, .int (nI rbs)])), (rb1, .inl (T 1, 40, .inr (.inl rbf))), (rc0, .inr (1, [.int rch, .int (nI rcz), .ref rc1, .int (nI rcs)])), (rc1, .inl (T 1, 40, .inr (.inl rcf))), (rd0, .inr (1, [.int rdh, .int (nI rdz), .ref rd1, .int (nI rds)])), (rd1, .inl (T 1, 40, .inr (.inl (vp_updL rdG k36 (cutv rds ((nf3 k36).toInt64)))))), (n0, .inr (5, [.int (nI nn), .int nm, .int nl, .int no, .int nu, .ref n1, .ref n2, .ref n3, .ref n4, .ref n5, .ref n6, .ref n7, .ref n8, .ref n9, .ref n10])), (n3, .inl (T 0, 10, .inl nf3))] H locs := V _ [8, 0] rfl rfl rfl (by decide +kernel) rfl
              show W p l e _ s m args below meth c H locs _ _ _ (F0 m 67 ls [])
              refine lv_iinc (v := (nI (k36 + 1))) (lv' := [(3, .int (nI (k36 + 1))), (2, .int (nI 0)), (0, .ref o), (1, .int (nI 3))]) hx hb dX7_copy_67 hl (k := 0) rfl (nI_1 _) (by decide) rfl (fun ls hl => ?_)
              refine lv_goto (tgt := 36) hx hb dX7_copy_70 (by decide) ?_
              exact ih_36 (k36 + 1) (vp_updL rdG k36 (cutv rds ((nf3 k36).toInt64))) (by omega) (upL_one (p := fun i y => y = cutv rds (fa (24 + i)).toInt64) hg1 (by rw [(h_sr.2.2.2.2 k36 (by omega)).2.2.1])) (fun i hi => (upL_other (by omega)).trans (hg2 i (by omega))) (by omega) _ _ _ V (lv_sub hl [0, 1, 2, 3] rfl)
        exact L_21 _ 0 rdf (by omega) (fun i h => absurd h (Nat.not_lt_zero _)) (fun _ _ => rfl) (Nat.lt_succ_self _) _ _ _ V (lv_sub hl [0, 1, 2, 3] rfl)
      · skip
        have c_20 := b_nle (by omega) (by omega) c_20
        refine lv_bipush (v := (-7)) hx hb dX7_copy_31 (by decide +kernel) ?_
        exact g_iret (Qr := (q_x_copy_f T fq fm fn nf1 nf2 nf4 nf5 nf6 nf7 nf9 fa o row n0 s0 im iz rw t0 u0 h0 y0 sv ra0 rb0 rc0 rd0 rah raz ra1 ras raf rbh rbz rb1 rbs rbf rch rcz rc1 rcs rcf rdh rdz rd1 rds rdf nn nm nl no nu n1 n2 n3 n4 n5 n6 n7 n8 n9 n10 nf3)) hC V ⟨(Nat.le_of_ble_eq_true rfl), (Nat.le_of_ble_eq_true rfl)⟩ ⟨(-7), raf, rbf, rcf, rdf, rfl, rfl, (cp_7 (f := fa) (fn := fn) (rr_s ej_10 (by decide) hRk.1 (by omega)) ej_10 (by decide) hRk.2.1 (by omega) (by omega) (by omega)).1, (by rw [← (cp_7 (f := fa) (fn := fn) (rr_s ej_10 (by decide) hRk.1 (by omega)) ej_10 (by decide) hRk.2.1 (by omega) (by omega) (by omega)).2]; exact h_r0), (by rw [← (cp_7 (f := fa) (fn := fn) (rr_s ej_10 (by decide) hRk.1 (by omega)) ej_10 (by decide) hRk.2.1 (by omega) (by omega) (by omega)).2]; exact h_r1), (by rw [← (cp_7 (f := fa) (fn := fn) (rr_s ej_10 (by decide) hRk.1 (by omega)) ej_10 (by decide) hRk.2.1 (by omega) (by omega) (by omega)).2]; exact h_r2), (by rw [← (cp_7 (f := fa) (fn := fn) (rr_s ej_10 (by decide) hRk.1 (by omega)) ej_10 (by decide) hRk.2.1 (by omega) (by omega) (by omega)).2]; exact h_r3)⟩ dX7_copy_33
  · have V : gW D T A s [(o, .inr (7, [.ref n0, .ref s0, .ref im, .ref iz, .ref rw, .ref t0, .ref u0, .ref h0, .ref y0, sv])), (rw, .inl (T 5, 4, .inr (.inr (.inr (.inr (va_up (va_up (va_up (va_up (fun _ => none) 0 (some ra0)) 1 (some rb0)) 2 (some rc0)) 3 (some rd0))))))), (ra0, .inr (1, [.int rah, .int (nI raz), .ref ra1, .int (nI ras)])), (ra1, .inl (T 1, 40, .inr (.inl raf))), (rb0, .inr (1, [.int rbh, .int (nI rbz), .ref rb1, .int (nI rbs)])), (rb1, .inl (T 1, 40, .inr (.inl rbf))), (rc0, .inr (1, [.int rch, .int (nI rcz), .ref rc1, .int (nI rcs)])), (rc1, .inl (T 1, 40, .inr (.inl rcf))), (rd0, .inr (1, [.int rdh, .int (nI rdz), .ref rd1, .int (nI rds)])), (rd1, .inl (T 1, 40, .inr (.inl rdf))), (n0, .inr (5, [.int (nI nn), .int nm, .int nl, .int no, .int nu, .ref n1, .ref n2, .ref n3, .ref n4, .ref n5, .ref n6, .ref n7, .ref n8, .ref n9, .ref n10])), (n3, .inl (T 0, 10, .inl nf3))] H locs := V _ [0, 0, 0, 0, 0, 0, 0, 0, 0, 0] rfl rfl rfl (by decide +kernel) rfl
    show W p l e _ s m args below meth c H locs _ _ _ (F0 m 5 ls [.int z_7])
    refine lv_istore_n (lv' := [(2, .int z_7), (0, .ref o), (1, .int row)]) hx hb dX7_copy_5 rfl hl (by decide) rfl (fun ls hl => ?_)
    refine lv_iload_n hx hb dX7_copy_6 rfl (lv_at hl 0 rfl) ?_
    refine lv_if_eq (tgt := 12) hx hb dX7_copy_7 (by decide) (fun c_23 => ?_) (fun c_23 => ?_)
    · skip
      exact (absurd c_23 (by assumption) : False).elim
    · skip
      refine lv_iload_n hx hb dX7_copy_10 rfl (lv_at hl 0 rfl) ?_
      exact g_iret (Qr := (q_x_copy_f T fq fm fn nf1 nf2 nf4 nf5 nf6 nf7 nf9 fa o row n0 s0 im iz rw t0 u0 h0 y0 sv ra0 rb0 rc0 rd0 rah raz ra1 ras raf rbh rbz rb1 rbs rbf rch rcz rc1 rcs rcf rdh rdz rd1 rds rdf nn nm nl no nu n1 n2 n3 n4 n5 n6 n7 n8 n9 n10 nf3)) hC V ⟨(Nat.le_of_ble_eq_true rfl), (Nat.le_of_ble_eq_true rfl)⟩ ⟨z_7, raf, rbf, rcf, rdf, rfl, rfl, (cp_r (n := nn) (f := fa) (fn := fn) (fm := fm) (f_9.trans (rr_eq (RW_0 h_r0 h_sra) (RW_0 h_r1 h_srb) (RW_0 h_r2 h_src) (RW_0 h_r3 h_srd))) f_8).1, (by rw [← (cp_r (n := nn) (f := fa) (fn := fn) (fm := fm) (f_9.trans (rr_eq (RW_0 h_r0 h_sra) (RW_0 h_r1 h_srb) (RW_0 h_r2 h_src) (RW_0 h_r3 h_srd))) f_8).2]; exact h_r0), (by rw [← (cp_r (n := nn) (f := fa) (fn := fn) (fm := fm) (f_9.trans (rr_eq (RW_0 h_r0 h_sra) (RW_0 h_r1 h_srb) (RW_0 h_r2 h_src) (RW_0 h_r3 h_srd))) f_8).2]; exact h_r1), (by rw [← (cp_r (n := nn) (f := fa) (fn := fn) (fm := fm) (f_9.trans (rr_eq (RW_0 h_r0 h_sra) (RW_0 h_r1 h_srb) (RW_0 h_r2 h_src) (RW_0 h_r3 h_srd))) f_8).2]; exact h_r2), (by rw [← (cp_r (n := nn) (f := fa) (fn := fn) (fm := fm) (f_9.trans (rr_eq (RW_0 h_r0 h_sra) (RW_0 h_r1 h_srb) (RW_0 h_r2 h_src) (RW_0 h_r3 h_srd))) f_8).2]; exact h_r3)⟩ dX7_copy_11

def q_m_copy_f (T : Nat → ClassId) (n : Nat) (o : Nat) (row : Int32) (w0 : Int32) (g1 : Nat) (g2 : Nat) (g3 : Nat) (g4 : Nat) (tp : Nat) (w6 : Int32) (w7 : Int32) (w8 : Int32) (w9 : Int32) (w10 : Int32) (w11 : Int32) (w12 : Int32) (w13 : Int32) (w14 : Int32) (g15 : Nat) (w16 : Int32) (g17 : Nat) (w18 : Int32) (w19 : Int32) (g20 : Nat) (w21 : Int32) (g22 : Nat) (g23 : Nat) (g24 : Nat) (w25 : Int32) (w26 : Int32) (w27 : Int32) (g28 : Nat) (g29 : Nat) (w30 : Int32) (g31 : Nat) (g32 : Nat) (g33 : Nat) (fa : Nat → Int32) (fq : Nat → Int32) (fm : Nat → Int32) (fn : Nat → Int64) : Option Value → va_W → Prop := fun rr ww => (∃ (z : Int32) (gn : Nat → Int64), rr = some (.int z) ∧ ww = [(o, .inr (8, [.int (nI 0), .ref g1, .ref g2, .ref g3, .ref g4, .int (nI tp), .int w6, .int w7, .int w8, .int w9, .int w10, .int w11, .int w12, .int w13, .int w14, .ref g15, .int w16, .ref g17, .int w18, .int w19, .ref g20, .int w21, .ref g22, .ref g23, .ref g24, .int w25, .int w26, .int w27, .ref g28, .ref g29, .int w30, .ref g31, .ref g32, .ref g33])), (g1, .inl (T 0, 282, .inl fa)), (g31, .inl (T 0, 4, .inl fq)), (g32, .inl (T 0, 4, .inl fm)), (g33, .inl (T 1, 160, .inr (.inl gn)))] ∧ z = cpA n fq fm row ∧ gn = cpN n fa fn fq fm row)
set_option maxHeartbeats 4000000 in
set_option maxRecDepth 100000 in
theorem m_copy_f (l : Launch) (D : va_G) (T : Nat → ClassId) (n : Nat) (o : Nat) (row : Int32) (w0 : Int32) (g1 : Nat) (g2 : Nat) (g3 : Nat) (g4 : Nat) (tp : Nat) (w6 : Int32) (w7 : Int32) (w8 : Int32) (w9 : Int32) (w10 : Int32) (w11 : Int32) (w12 : Int32) (w13 : Int32) (w14 : Int32) (g15 : Nat) (w16 : Int32) (g17 : Nat) (w18 : Int32) (w19 : Int32) (g20 : Nat) (w21 : Int32) (g22 : Nat) (g23 : Nat) (g24 : Nat) (w25 : Int32) (w26 : Int32) (w27 : Int32) (g28 : Nat) (g29 : Nat) (w30 : Int32) (g31 : Nat) (g32 : Nat) (g33 : Nat) (fa : Nat → Int32) (fq : Nat → Int32) (fm : Nat → Int32) (fn : Nat → Int64) (h_a : MI n fa) (h_rm : ∀ i, i < 4 → bd (fm i) 41) (h_rs : ∀ i, i < 4 → (fq i = -1 ∨ bd (fq i) 4)) : Ct l yX8_copy cX8_copy 3 (some .int) 1 0 0 D T [.ref o, .int row] [(o, .inr (8, [.int w0, .ref g1, .ref g2, .ref g3, .ref g4, .int (nI tp), .int w6, .int w7, .int w8, .int w9, .int w10, .int w11, .int w12, .int w13, .int w14, .ref g15, .int w16, .ref g17, .int w18, .int w19, .ref g20, .int w21, .ref g22, .ref g23, .ref g24, .int w25, .int w26, .int w27, .ref g28, .ref g29, .int w30, .ref g31, .ref g32, .ref g33])), (g1, .inl (T 0, 282, .inl fa)), (g31, .inl (T 0, 4, .inl fq)), (g32, .inl (T 0, 4, .inl fm)), (g33, .inl (T 1, 160, .inr (.inl fn)))] (q_m_copy_f T n o row w0 g1 g2 g3 g4 tp w6 w7 w8 w9 w10 w11 w12 w13 w14 g15 w16 g17 w18 w19 g20 w21 g22 g23 g24 w25 w26 w27 g28 g29 w30 g31 g32 g33 fa fq fm fn) := by
  refine Ct.of (cc := cX8_copy) (maxL := 3) (ret := (some .int)) (by decide) (Nat.le_of_ble_eq_true rfl) ?_
  intro p e s m args below meth c A ls hC hnm V hl
  obtain ⟨hx, hb, hr, hml, hown, hts, hlocks⟩ := id hC
  generalize hH : s.heap = H at V ⊢
  clear hH
  have hl : lv_has ls 3 [(0, .ref o), (1, .int row)] := hl
  generalize hlo : ([] : List Loc) = locs at V ⊢
  clear hlo
  have ms0 := ms_rf h_a
  have hn10 := h_a.1
  refine lv_aload_n hx hb dX8_copy_0 rfl (lv_at hl 0 rfl) ?_
  refine lv_iconst (v := (nI 0)) hx hb dX8_copy_1 (by decide +kernel) ?_
  refine g_put hC V (ci := 8) uwX8 tyX8 tyX8_ok nmX8 0 rfl rfl 0 (by decide) w_912 rfl rfl rfl rfl (Nat.le_of_ble_eq_true rfl) (ws' := [(o, .inr (8, [.int (nI 0), .ref g1, .ref g2, .ref g3, .ref g4, .int (nI tp), .int w6, .int w7, .int w8, .int w9, .int w10, .int w11, .int w12, .int w13, .int w14, .ref g15, .int w16, .ref g17, .int w18, .int w19, .ref g20, .int w21, .ref g22, .ref g23, .ref g24, .int w25, .int w26, .int w27, .ref g28, .ref g29, .int w30, .ref g31, .ref g32, .ref g33])), (g1, .inl (T 0, 282, .inl fa)), (g31, .inl (T 0, 4, .inl fq)), (g32, .inl (T 0, 4, .inl fm)), (g33, .inl (T 1, 160, .inr (.inl fn)))]) rfl dX8_copy_2 (fun H locs V => ?_)
  refine lv_iload_n hx hb dX8_copy_5 rfl (lv_at hl 1 rfl) ?_
  refine lv_i2l (v := row.toInt64) hx hb dX8_copy_6 rfl ?_
  refine lv_lconst (v := (nI 0).toInt64) hx hb dX8_copy_7 (by decide +kernel) ?_
  refine lv_ldc2 (v := (3)) hx hb hown (hts _ w_1144) dX8_copy_8 ?_
  refine g_vl (y := (nI 3).toInt64) (by decide +kernel) ?_
  refine g_callSU (nA := 3) hC V hl.1 (m_within l D T row (nI 0) (nI 3)) w_1023 w_1024 w_9 w_1025 (by decide +kernel) rfl ⟨(Nat.le_of_ble_eq_true rfl), (Nat.le_of_ble_eq_true rfl)⟩ [] rfl rfl (Nat.le_of_ble_eq_true rfl) dX8_copy_11 ⟨(Nat.le_of_ble_eq_true rfl), (Nat.le_of_ble_eq_true rfl)⟩ rfl (fun r w1 H locs hQ V => ?_)
  rcases hQ with ⟨rfl, rfl, f_1, f_2⟩ | ⟨rfl, rfl, f_3⟩
  · have V : gW D T A s [(o, .inr (8, [.int (nI 0), .ref g1, .ref g2, .ref g3, .ref g4, .int (nI tp), .int w6, .int w7, .int w8, .int w9, .int w10, .int w11, .int w12, .int w13, .int w14, .ref g15, .int w16, .ref g17, .int w18, .int w19, .ref g20, .int w21, .ref g22, .ref g23, .ref g24, .int w25, .int w26, .int w27, .ref g28, .ref g29, .int w30, .ref g31, .ref g32, .ref g33])), (g1, .inl (T 0, 282, .inl fa)), (g31, .inl (T 0, 4, .inl fq)), (g32, .inl (T 0, 4, .inl fm)), (g33, .inl (T 1, 160, .inr (.inl fn)))] H locs := V _ [] rfl rfl rfl (by decide +kernel) rfl
    show W p l e _ s m args below meth c H locs _ _ _ (F0 m 14 ls [.int (nI 1)])
    obtain ⟨jr, hjr1, hjr2, ejr⟩ := g_rng (by decide) (by decide) f_1 f_2
    rw [ejr] at hl
    obtain ⟨mz, hmz, emz⟩ := h_rm jr (by omega)
    refine lv_if_ne (tgt := 20) hx hb dX8_copy_14 (by decide) (fun _ => ?_) (fun c => absurd (show (nI 1) = 0 from c) (by decide +kernel))
    refine lv_aload_n hx hb dX8_copy_20 rfl (lv_at hl 0 rfl) ?_
    refine g_get hC V (ci := 8) uwX8 0 rfl rfl 31 (by decide) w_943 rfl rfl dX8_copy_21 ?_
    refine lv_iload_n hx hb dX8_copy_24 rfl (lv_at hl 1 rfl) ?_
    refine g_iald hC V 2 rfl (vp_in_nI (by omega) (by omega)) (v := (fq jr)) (congrArg _ (nI_clamp (by omega))) dX8_copy_25 ?_
    refine lv_iconst (v := (-1)) hx hb dX8_copy_26 (by decide +kernel) ?_
    refine lv_icmp_ne (tgt := 33) hx hb dX8_copy_27 (by decide) (fun c_4 => ?_) (fun c_4 => ?_)
    · skip
      have hq1 := c_4
      obtain ⟨so, hso, eso⟩ := (h_rs jr (by omega)).resolve_left c_4
      refine lv_aload_n hx hb dX8_copy_33 rfl (lv_at hl 0 rfl) ?_
      refine g_get hC V (ci := 8) uwX8 0 rfl rfl 32 (by decide) w_944 rfl rfl dX8_copy_34 ?_
      refine lv_iload_n hx hb dX8_copy_37 rfl (lv_at hl 1 rfl) ?_
      refine g_iald hC V 3 rfl (vp_in_nI (by omega) (by omega)) (v := (nI mz)) (by rw [nI_clamp (by omega)]; exact emz) dX8_copy_38 ?_
      refine lv_aload_n hx hb dX8_copy_39 rfl (lv_at hl 0 rfl) ?_
      refine g_get hC V (ci := 8) uwX8 0 rfl rfl 1 (by decide) w_913 rfl rfl dX8_copy_40 ?_
      refine lv_iconst (v := (nI 0)) hx hb dX8_copy_43 (by decide +kernel) ?_
      refine g_iald hC V 1 rfl (vp_in_nI (by decide) (by decide)) (v := (nI n)) (by rw [nI_clamp (by decide)]; first | rfl | exact h_a.2.1) dX8_copy_44 ?_
      refine lv_icmp_ge (tgt := 51) hx hb dX8_copy_45 (by decide) (fun c_5 => ?_) (fun c_5 => ?_)
      · skip
        have c_5 := b_le (by omega) (by omega) c_5
        refine lv_iconst (v := (nI 0)) hx hb dX8_copy_51 (by decide +kernel) ?_
        refine lv_istore_n (lv' := [(2, .int (nI 0)), (0, .ref o), (1, .int (nI jr))]) hx hb dX8_copy_52 rfl hl (by decide) rfl (fun ls hl => ?_)
        have L_6 : ∀ (fu : Nat) (k53 : Nat) (gz : Nat → Int64), k53 ≤ n → (∀ j, j < k53 → gz (40 * jr + j) = cutv so (fa (24 + j)).toInt64) → (∀ j, (j < 40 * jr ∨ 40 * jr + k53 ≤ j) → gz j = fn j) → n - k53 < fu → ∀ (H : Heap) (locs : List Loc) (ls : Array Slot), gW D T A s [(o, .inr (8, [.int (nI 0), .ref g1, .ref g2, .ref g3, .ref g4, .int (nI tp), .int w6, .int w7, .int w8, .int w9, .int w10, .int w11, .int w12, .int w13, .int w14, .ref g15, .int w16, .ref g17, .int w18, .int w19, .ref g20, .int w21, .ref g22, .ref g23, .ref g24, .int w25, .int w26, .int w27, .ref g28, .ref g29, .int w30, .ref g31, .ref g32, .ref g33])), (g1, .inl (T 0, 282, .inl fa)), (g31, .inl (T 0, 4, .inl fq)), (g32, .inl (T 0, 4, .inl fm)), (g33, .inl (T 1, 160, .inr (.inl gz)))] H locs → lv_has ls 3 [(2, .int (nI k53)), (0, .ref o), (1, .int (nI jr))] → W p l e (rmD 1 0 0) s m args below meth c H locs 0 0 (MQ below (gQ D A (q_m_copy_f T n o row w0 g1 g2 g3 g4 tp w6 w7 w8 w9 w10 w11 w12 w13 w14 g15 w16 g17 w18 w19 g20 w21 g22 g23 g24 w25 w26 w27 g28 g29 w30 g31 g32 g33 fa fq fm fn)) args s 0 0 A) (F0 m 53 ls []) := by
          intro fu_53
          induction fu_53 with
          | zero => intro k53 gz hk53 hz1 hz2 hmu; exact absurd hmu (Nat.not_lt_zero _)
          | succ fu_53 ih_53 =>
            intro k53 gz hk53 hz1 hz2 hmu_53 H locs ls V hl
            refine lv_iload_n hx hb dX8_copy_53 rfl (lv_at hl 0 rfl) ?_
            refine lv_aload_n hx hb dX8_copy_54 rfl (lv_at hl 1 rfl) ?_
            refine g_get hC V (ci := 8) uwX8 0 rfl rfl 1 (by decide) w_913 rfl rfl dX8_copy_55 ?_
            refine lv_iconst (v := (nI 0)) hx hb dX8_copy_58 (by decide +kernel) ?_
            refine g_iald hC V 1 rfl (vp_in_nI (by decide) (by decide)) (v := (nI n)) (by rw [nI_clamp (by decide)]; first | rfl | exact h_a.2.1) dX8_copy_59 ?_
            refine lv_icmp_ge (tgt := 99) hx hb dX8_copy_60 (by decide) (fun c_7 => ?_) (fun c_7 => ?_)
            · skip
              have c_7 := b_le (by omega) (by omega) c_7
              refine lv_aload_n hx hb dX8_copy_99 rfl (lv_at hl 1 rfl) ?_
              refine g_get hC V (ci := 8) uwX8 0 rfl rfl 1 (by decide) w_913 rfl rfl dX8_copy_100 ?_
              refine lv_iconst (v := (nI 0)) hx hb dX8_copy_103 (by decide +kernel) ?_
              refine g_iald hC V 1 rfl (vp_in_nI (by decide) (by decide)) (v := (nI n)) (by rw [nI_clamp (by decide)]; first | rfl | exact h_a.2.1) dX8_copy_104 ?_
              exact g_iret (Qr := (q_m_copy_f T n o row w0 g1 g2 g3 g4 tp w6 w7 w8 w9 w10 w11 w12 w13 w14 g15 w16 g17 w18 w19 g20 w21 g22 g23 g24 w25 w26 w27 g28 g29 w30 g31 g32 g33 fa fq fm fn)) hC V ⟨(Nat.le_of_ble_eq_true rfl), (Nat.le_of_ble_eq_true rfl)⟩ ⟨(nI n), gz, rfl, rfl, (cp_y (f := fa) (rr_0 ejr (by omega) hq1) ejr (by omega) eso (by omega) emz (by omega) hn10 (by omega) (fun j hj => hz1 j (by omega)) (fun j hj => hz2 j (by omega))).1, (cp_y (f := fa) (rr_0 ejr (by omega) hq1) ejr (by omega) eso (by omega) emz (by omega) hn10 (by omega) (fun j hj => hz1 j (by omega)) (fun j hj => hz2 j (by omega))).2⟩ dX8_copy_105
            · skip
              have c_7 := b_nle (by omega) (by omega) c_7
              refine lv_aload_n hx hb dX8_copy_63 rfl (lv_at hl 1 rfl) ?_
              refine g_get hC V (ci := 8) uwX8 0 rfl rfl 33 (by decide) w_945 rfl rfl dX8_copy_64 ?_
              refine lv_bipush (v := (nI 40)) hx hb dX8_copy_67 (by decide +kernel) ?_
              refine lv_iload_n hx hb dX8_copy_69 rfl (lv_at hl 2 rfl) ?_
              refine lv_imul hx hb dX8_copy_70 ?_
              refine g_vi (y := (nI (40 * jr))) (pk_mul _ _) ?_
              refine lv_iload_n hx hb dX8_copy_71 rfl (lv_at hl 0 rfl) ?_
              refine lv_iadd hx hb dX8_copy_72 ?_
              refine g_vi (y := (nI ((40 * jr) + k53))) (nI_add _ _) ?_
              refine lv_aload_n hx hb dX8_copy_73 rfl (lv_at hl 1 rfl) ?_
              refine g_get hC V (ci := 8) uwX8 0 rfl rfl 1 (by decide) w_913 rfl rfl dX8_copy_74 ?_
              refine lv_bipush (v := (nI 24)) hx hb dX8_copy_77 (by decide +kernel) ?_
              refine lv_iload_n hx hb dX8_copy_79 rfl (lv_at hl 0 rfl) ?_
              refine lv_iadd hx hb dX8_copy_80 ?_
              refine g_vi (y := (nI (24 + k53))) (nI_add _ _) ?_
              obtain ⟨j_8, hj_8, ej_8⟩ := bd_ex (mi_heat h_a (i := k53) (by omega))
              refine g_iald hC V 1 rfl (vp_in_nI (by omega) (by omega)) (v := (nI j_8)) (by rw [nI_clamp (by omega)]; exact ej_8) dX8_copy_81 ?_
              refine lv_i2l (v := (nI j_8).toInt64) hx hb dX8_copy_82 rfl ?_
              refine lv_aload_n hx hb dX8_copy_83 rfl (lv_at hl 1 rfl) ?_
              refine g_get hC V (ci := 8) uwX8 0 rfl rfl 31 (by decide) w_943 rfl rfl dX8_copy_84 ?_
              refine lv_iload_n hx hb dX8_copy_87 rfl (lv_at hl 2 rfl) ?_
              refine g_iald hC V 2 rfl (vp_in_nI (by omega) (by omega)) (v := (fq jr)) (congrArg _ (nI_clamp (by omega))) dX8_copy_88 ?_
              refine g_callSU (nA := 2) hC V hl.1 (m_cut_f l D T ((nI j_8).toInt64) (fq jr) ⟨so, hso, eso⟩) w_1384 w_1385 w_9 w_1386 (by decide +kernel) rfl ⟨(Nat.le_of_ble_eq_true rfl), (Nat.le_of_ble_eq_true rfl)⟩ [] rfl rfl (Nat.le_of_ble_eq_true rfl) dX8_copy_89 ⟨(Nat.le_of_ble_eq_true rfl), (Nat.le_of_ble_eq_true rfl)⟩ rfl (fun r w1 H locs hQ V => ?_)
              obtain ⟨z_9, rfl, rfl, f_10⟩ := hQ
              have V : gW D T A s [(o, .inr (8, [.int (nI 0), .ref g1, .ref g2, .ref g3, .ref g4, .int (nI tp), .int w6, .int w7, .int w8, .int w9, .int w10, .int w11, .int w12, .int w13, .int w14, .ref g15, .int w16, .ref g17, .int w18, .int w19, .ref g20, .int w21, .ref g22, .ref g23, .ref g24, .int w25, .int w26, .int w27, .ref g28, .ref g29, .int w30, .ref g31, .ref g32, .ref g33])), (g1, .inl (T 0, 282, .inl fa)), (g31, .inl (T 0, 4, .inl fq)), (g32, .inl (T 0, 4, .inl fm)), (g33, .inl (T 1, 160, .inr (.inl gz)))] H locs := V _ [] rfl rfl rfl (by decide +kernel) rfl
              show W p l e _ s m args below meth c H locs _ _ _ (F0 m 92 ls [.long z_9, .int (nI ((40 * jr) + k53)), .ref g33])
              have ecz : z_9 = cutv so (fa (24 + k53)).toInt64 := by rw [f_10, eso, nI_clamp (by omega), ej_8]
              refine g_last hC V 4 rfl (vp_in_nI (by omega) (by omega)) (f' := (vp_updL gz ((40 * jr) + k53) z_9)) (by rw [nI_clamp (by omega)]) (ws' := [(o, .inr (8, [.int (nI 0), .ref g1, .ref g2, .ref g3, .ref g4, .int (nI tp), .int w6, .int w7, .int w8, .int w9, .int w10, .int w11, .int w12, .int w13, .int w14, .ref g15, .int w16, .ref g17, .int w18, .int w19, .ref g20, .int w21, .ref g22, .ref g23, .ref g24, .int w25, .int w26, .int w27, .ref g28, .ref g29, .int w30, .ref g31, .ref g32, .ref g33])), (g1, .inl (T 0, 282, .inl fa)), (g31, .inl (T 0, 4, .inl fq)), (g32, .inl (T 0, 4, .inl fm)), (g33, .inl (T 1, 160, .inr (.inl (vp_updL gz ((40 * jr) + k53) z_9))))]) rfl dX8_copy_92 (fun H locs V => ?_)
              refine lv_iinc (v := (nI (k53 + 1))) (lv' := [(2, .int (nI (k53 + 1))), (0, .ref o), (1, .int (nI jr))]) hx hb dX8_copy_93 hl (k := 0) rfl (nI_1 _) (by decide) rfl (fun ls hl => ?_)
              refine lv_goto (tgt := 53) hx hb dX8_copy_96 (by decide) ?_
              exact ih_53 (k53 + 1) (vp_updL gz ((40 * jr) + k53) z_9) (by omega) (uL_bk (p := fun j => cutv so (fa (24 + j)).toInt64) hz1 ecz) (fun j hj => (upL_other (by omega)).trans (hz2 j (by omega))) (by omega) _ _ _ V (lv_sub hl [0, 1, 2] rfl)
        exact L_6 _ 0 fn (by omega) (fun i h => absurd h (Nat.not_lt_zero _)) (fun _ _ => rfl) (Nat.lt_succ_self _) _ _ _ V (lv_sub hl [0, 1, 2] rfl)
      · skip
        have c_5 := b_nle (by omega) (by omega) c_5
        refine lv_bipush (v := (-7)) hx hb dX8_copy_48 (by decide +kernel) ?_
        exact g_iret (Qr := (q_m_copy_f T n o row w0 g1 g2 g3 g4 tp w6 w7 w8 w9 w10 w11 w12 w13 w14 g15 w16 g17 w18 w19 g20 w21 g22 g23 g24 w25 w26 w27 g28 g29 w30 g31 g32 g33 fa fq fm fn)) hC V ⟨(Nat.le_of_ble_eq_true rfl), (Nat.le_of_ble_eq_true rfl)⟩ ⟨(-7), fn, rfl, rfl, (cp_7 (f := fa) (fn := fn) (rr_0 ejr (by omega) hq1) ejr (by omega) emz (by omega) hn10 (by omega)).1, (cp_7 (f := fa) (fn := fn) (rr_0 ejr (by omega) hq1) ejr (by omega) emz (by omega) hn10 (by omega)).2⟩ dX8_copy_50
    · skip
      have hq0 := c_4
      refine lv_bipush (v := (-6)) hx hb dX8_copy_30 (by decide +kernel) ?_
      exact g_iret (Qr := (q_m_copy_f T n o row w0 g1 g2 g3 g4 tp w6 w7 w8 w9 w10 w11 w12 w13 w14 g15 w16 g17 w18 w19 g20 w21 g22 g23 g24 w25 w26 w27 g28 g29 w30 g31 g32 g33 fa fq fm fn)) hC V ⟨(Nat.le_of_ble_eq_true rfl), (Nat.le_of_ble_eq_true rfl)⟩ ⟨(-6), fn, rfl, rfl, (cp_r (n := n) (f := fa) (fn := fn) (fm := fm) (rr_6 ejr (by omega) hq0) (by decide +kernel)).1, (cp_r (n := n) (f := fa) (fn := fn) (fm := fm) (rr_6 ejr (by omega) hq0) (by decide +kernel)).2⟩ dX8_copy_32
  · have V : gW D T A s [(o, .inr (8, [.int (nI 0), .ref g1, .ref g2, .ref g3, .ref g4, .int (nI tp), .int w6, .int w7, .int w8, .int w9, .int w10, .int w11, .int w12, .int w13, .int w14, .ref g15, .int w16, .ref g17, .int w18, .int w19, .ref g20, .int w21, .ref g22, .ref g23, .ref g24, .int w25, .int w26, .int w27, .ref g28, .ref g29, .int w30, .ref g31, .ref g32, .ref g33])), (g1, .inl (T 0, 282, .inl fa)), (g31, .inl (T 0, 4, .inl fq)), (g32, .inl (T 0, 4, .inl fm)), (g33, .inl (T 1, 160, .inr (.inl fn)))] H locs := V _ [] rfl rfl rfl (by decide +kernel) rfl
    show W p l e _ s m args below meth c H locs _ _ _ (F0 m 14 ls [.int (nI 0)])
    have r0 : (row < 0 ∨ nI 4 ≤ row) := nv_r rfl (by decide) f_3
    refine lv_if_ne (tgt := 20) hx hb dX8_copy_14 (by decide) (fun c => absurd (show (nI 0) = 0 by decide +kernel) c) (fun _ => ?_)
    refine lv_bipush (v := (-2)) hx hb dX8_copy_17 (by decide +kernel) ?_
    exact g_iret (Qr := (q_m_copy_f T n o row w0 g1 g2 g3 g4 tp w6 w7 w8 w9 w10 w11 w12 w13 w14 g15 w16 g17 w18 w19 g20 w21 g22 g23 g24 w25 w26 w27 g28 g29 w30 g31 g32 g33 fa fq fm fn)) hC V ⟨(Nat.le_of_ble_eq_true rfl), (Nat.le_of_ble_eq_true rfl)⟩ ⟨(-2), fn, rfl, rfl, (cp_r (n := n) (f := fa) (fn := fn) (fm := fm) (rr_2 r0) (by decide +kernel)).1, (cp_r (n := n) (f := fa) (fn := fn) (fm := fm) (rr_2 r0) (by decide +kernel)).2⟩ dX8_copy_19
