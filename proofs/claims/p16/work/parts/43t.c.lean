def q_x_write_f (T : Nat → ClassId) (fq : Nat → Int32) (fm : Nat → Int32) (fn : Nat → Int64) (o : Nat) (row : Int32) (i : Int32) (vv : Int64) (n0 : Nat) (s0 : Nat) (im : Nat) (iz : Nat) (rw : Nat) (t0 : Nat) (u0 : Nat) (h0 : Nat) (y0 : Nat) (sv : Value) (ra0 : Nat) (rb0 : Nat) (rc0 : Nat) (rd0 : Nat) (rah : Int32) (raz : Nat) (ra1 : Nat) (ras : Nat) (raf : Nat → Int64) (rbh : Int32) (rbz : Nat) (rb1 : Nat) (rbs : Nat) (rbf : Nat → Int64) (rch : Int32) (rcz : Nat) (rc1 : Nat) (rcs : Nat) (rcf : Nat → Int64) (rdh : Int32) (rdz : Nat) (rd1 : Nat) (rds : Nat) (rdf : Nat → Int64) : Option Value → va_W → Prop := fun rr ww => (∃ (z : Int64) (raF : Nat → Int64) (rbF : Nat → Int64) (rcF : Nat → Int64) (rdF : Nat → Int64), rr = some (.long z) ∧ ww = [(o, .inr (7, [.ref n0, .ref s0, .ref im, .ref iz, .ref rw, .ref t0, .ref u0, .ref h0, .ref y0, sv])), (rw, .inl (T 5, 4, .inr (.inr (.inr (.inr (va_up (va_up (va_up (va_up (fun _ => none) 0 (some ra0)) 1 (some rb0)) 2 (some rc0)) 3 (some rd0))))))), (ra0, .inr (1, [.int rah, .int (nI raz), .ref ra1, .int (nI ras)])), (ra1, .inl (T 1, 40, .inr (.inl raF))), (rb0, .inr (1, [.int rbh, .int (nI rbz), .ref rb1, .int (nI rbs)])), (rb1, .inl (T 1, 40, .inr (.inl rbF))), (rc0, .inr (1, [.int rch, .int (nI rcz), .ref rc1, .int (nI rcs)])), (rc1, .inl (T 1, 40, .inr (.inl rcF))), (rd0, .inr (1, [.int rdh, .int (nI rdz), .ref rd1, .int (nI rds)])), (rd1, .inl (T 1, 40, .inr (.inl rdF)))] ∧ z = wrA fq fm row i vv ∧ RW 0 rah raz ras raF fq fm (wrN fn fq fm row i vv) ∧ RW 1 rbh rbz rbs rbF fq fm (wrN fn fq fm row i vv) ∧ RW 2 rch rcz rcs rcF fq fm (wrN fn fq fm row i vv) ∧ RW 3 rdh rdz rds rdF fq fm (wrN fn fq fm row i vv))
set_option maxHeartbeats 4000000 in
set_option maxRecDepth 100000 in
theorem x_write_f (l : Launch) (D : va_G) (T : Nat → ClassId) (fq : Nat → Int32) (fm : Nat → Int32) (fn : Nat → Int64) (o : Nat) (row : Int32) (i : Int32) (vv : Int64) (n0 : Nat) (s0 : Nat) (im : Nat) (iz : Nat) (rw : Nat) (t0 : Nat) (u0 : Nat) (h0 : Nat) (y0 : Nat) (sv : Value) (ra0 : Nat) (rb0 : Nat) (rc0 : Nat) (rd0 : Nat) (rah : Int32) (raz : Nat) (ra1 : Nat) (ras : Nat) (raf : Nat → Int64) (rbh : Int32) (rbz : Nat) (rb1 : Nat) (rbs : Nat) (rbf : Nat → Int64) (rch : Int32) (rcz : Nat) (rc1 : Nat) (rcs : Nat) (rcf : Nat → Int64) (rdh : Int32) (rdz : Nat) (rd1 : Nat) (rds : Nat) (rdf : Nat → Int64) (h_zra : raz ≤ 40) (h_zrb : rbz ≤ 40) (h_zrc : rcz ≤ 40) (h_zrd : rdz ≤ 40) (h_sra : ras ≤ 3) (h_srb : rbs ≤ 3) (h_src : rcs ≤ 3) (h_srd : rds ≤ 3) (h_r0 : RW 0 rah raz ras raf fq fm fn) (h_r1 : RW 1 rbh rbz rbs rbf fq fm fn) (h_r2 : RW 2 rch rcz rcs rcf fq fm fn) (h_r3 : RW 3 rdh rdz rds rdf fq fm fn) : Ct l yX7_write cX7_write 6 (some .long) 2 0 0 D T [.ref o, .int row, .int i, .long vv] [(o, .inr (7, [.ref n0, .ref s0, .ref im, .ref iz, .ref rw, .ref t0, .ref u0, .ref h0, .ref y0, sv])), (rw, .inl (T 5, 4, .inr (.inr (.inr (.inr (va_up (va_up (va_up (va_up (fun _ => none) 0 (some ra0)) 1 (some rb0)) 2 (some rc0)) 3 (some rd0))))))), (ra0, .inr (1, [.int rah, .int (nI raz), .ref ra1, .int (nI ras)])), (ra1, .inl (T 1, 40, .inr (.inl raf))), (rb0, .inr (1, [.int rbh, .int (nI rbz), .ref rb1, .int (nI rbs)])), (rb1, .inl (T 1, 40, .inr (.inl rbf))), (rc0, .inr (1, [.int rch, .int (nI rcz), .ref rc1, .int (nI rcs)])), (rc1, .inl (T 1, 40, .inr (.inl rcf))), (rd0, .inr (1, [.int rdh, .int (nI rdz), .ref rd1, .int (nI rds)])), (rd1, .inl (T 1, 40, .inr (.inl rdf)))] (q_x_write_f T fq fm fn o row i vv n0 s0 im iz rw t0 u0 h0 y0 sv ra0 rb0 rc0 rd0 rah raz ra1 ras raf rbh rbz rb1 rbs rbf rch rcz rc1 rcs rcf rdh rdz rd1 rds rdf) := by
  refine Ct.of (cc := cX7_write) (maxL := 6) (ret := (some .long)) (by decide) (Nat.le_of_ble_eq_true rfl) ?_
  intro p e s m args below meth c A ls hC hnm V hl
  obtain ⟨hx, hb, hr, hml, hown, hts, hlocks⟩ := id hC
  generalize hH : s.heap = H at V ⊢
  clear hH
  have hl : lv_has ls 6 [(0, .ref o), (1, .int row), (2, .int i), (3, .long vv)] := hl
  generalize hlo : ([] : List Loc) = locs at V ⊢
  clear hlo
  refine lv_aload_n hx hb dX7_write_0 rfl (lv_at hl 0 rfl) ?_
  refine lv_iload_n hx hb dX7_write_1 rfl (lv_at hl 1 rfl) ?_
  refine g_callV (wr := []) (nA := 1) hC V hl.1 (x_refusedRow l D T o row n0 s0 im iz rw t0 u0 h0 y0 sv ra0 rb0 rc0 rd0 rah raz ra1 ras raf rbh rbz rb1 rbs rbf rch rcz rc1 rcs rcf rdh rdz rd1 rds rdf) w_524 w_526 w_s11 w_2 w_527 (by decide +kernel) rfl ⟨(Nat.le_of_ble_eq_true rfl), (Nat.le_of_ble_eq_true rfl)⟩ 0 (ci := 7) rfl rfl [0, 1, 2, 3, 4, 5, 6, 7, 8, 9] [] rfl rfl rfl rfl (by decide) (Nat.le_of_ble_eq_true rfl) dX7_write_2 ⟨(Nat.le_of_ble_eq_true rfl), (Nat.le_of_ble_eq_true rfl)⟩ rfl (fun r w1 H locs hQ V => ?_)
  rcases hQ with ⟨rfl, rfl, f_1, f_2, f_3, f_4, f_5, f_6⟩ | ⟨z_7, rfl, rfl, f_8, f_9⟩
  · have V : gW D T A s [(o, .inr (7, [.ref n0, .ref s0, .ref im, .ref iz, .ref rw, .ref t0, .ref u0, .ref h0, .ref y0, sv])), (rw, .inl (T 5, 4, .inr (.inr (.inr (.inr (va_up (va_up (va_up (va_up (fun _ => none) 0 (some ra0)) 1 (some rb0)) 2 (some rc0)) 3 (some rd0))))))), (ra0, .inr (1, [.int rah, .int (nI raz), .ref ra1, .int (nI ras)])), (ra1, .inl (T 1, 40, .inr (.inl raf))), (rb0, .inr (1, [.int rbh, .int (nI rbz), .ref rb1, .int (nI rbs)])), (rb1, .inl (T 1, 40, .inr (.inl rbf))), (rc0, .inr (1, [.int rch, .int (nI rcz), .ref rc1, .int (nI rcs)])), (rc1, .inl (T 1, 40, .inr (.inl rcf))), (rd0, .inr (1, [.int rdh, .int (nI rdz), .ref rd1, .int (nI rds)])), (rd1, .inl (T 1, 40, .inr (.inl rdf)))] H locs := V
    show W p l e _ s m args below meth c H locs _ _ _ (F0 m 5 ls [.int (nI 0)])
    obtain ⟨j_10, hj_10, ej_10⟩ := g_idx (n := 4) (by decide) f_1 f_2
    rw [ej_10] at hl
    have hj_10 : j_10 = 0 ∨ j_10 = 1 ∨ j_10 = 2 ∨ j_10 = 3 := by omega
    rcases hj_10 with rfl | rfl | rfl | rfl
    · have hRk := RW_y h_r0 (f_3 ej_10)
      refine lv_istore (lv' := [(5, .int (nI 0)), (0, .ref o), (1, .int (nI 0)), (2, .int i), (3, .long vv)]) hx hb dX7_write_5 hl (by decide) rfl (fun ls hl => ?_)
      refine lv_iload hx hb dX7_write_7 (lv_at hl 0 rfl) ?_
      refine lv_if_eq (tgt := 16) hx hb dX7_write_9 (by decide) (fun _ => ?_) (fun c => absurd (show (nI 0) = 0 by decide +kernel) c)
      refine lv_iload_n hx hb dX7_write_16 rfl (lv_at hl 3 rfl) ?_
      refine lv_iconst (v := (nI 0)) hx hb dX7_write_17 (by decide +kernel) ?_
      refine lv_aload_n hx hb dX7_write_18 rfl (lv_at hl 1 rfl) ?_
      refine g_get hC V (ci := 7) uwX7 0 rfl rfl 4 (by decide) w_253 rfl rfl dX7_write_19 ?_
      refine lv_iload_n hx hb dX7_write_22 rfl (lv_at hl 2 rfl) ?_
      refine g_aald hC V 1 5 rfl rfl (vp_in_nI (by decide) (by decide)) (v := .ref ra0) (by rw [nI_clamp (by decide)]; rfl) dX7_write_23 ?_
      refine g_get hC V (ci := 1) uwX1 2 rfl rfl 1 (by decide) w_232 rfl rfl dX7_write_24 ?_
      refine lv_iconst (v := (nI 1)) hx hb dX7_write_27 (by decide +kernel) ?_
      refine lv_isub hx hb dX7_write_28 ?_
      refine g_callSU (nA := 3) hC V hl.1 (c_isWithin l D T i (nI 0) ((nI raz) - (nI 1))) w_292 w_293 w_2 w_294 (by decide +kernel) rfl ⟨(Nat.le_of_ble_eq_true rfl), (Nat.le_of_ble_eq_true rfl)⟩ [] rfl rfl (Nat.le_of_ble_eq_true rfl) dX7_write_29 ⟨(Nat.le_of_ble_eq_true rfl), (Nat.le_of_ble_eq_true rfl)⟩ rfl (fun r w1 H locs hQ V => ?_)
      rcases hQ with ⟨rfl, rfl, f_11, f_12⟩ | ⟨rfl, rfl, f_13⟩
      · have V : gW D T A s [(o, .inr (7, [.ref n0, .ref s0, .ref im, .ref iz, .ref rw, .ref t0, .ref u0, .ref h0, .ref y0, sv])), (rw, .inl (T 5, 4, .inr (.inr (.inr (.inr (va_up (va_up (va_up (va_up (fun _ => none) 0 (some ra0)) 1 (some rb0)) 2 (some rc0)) 3 (some rd0))))))), (ra0, .inr (1, [.int rah, .int (nI raz), .ref ra1, .int (nI ras)])), (ra1, .inl (T 1, 40, .inr (.inl raf))), (rb0, .inr (1, [.int rbh, .int (nI rbz), .ref rb1, .int (nI rbs)])), (rb1, .inl (T 1, 40, .inr (.inl rbf))), (rc0, .inr (1, [.int rch, .int (nI rcz), .ref rc1, .int (nI rcs)])), (rc1, .inl (T 1, 40, .inr (.inl rcf))), (rd0, .inr (1, [.int rdh, .int (nI rdz), .ref rd1, .int (nI rds)])), (rd1, .inl (T 1, 40, .inr (.inl rdf)))] H locs := V _ [] rfl rfl rfl (by decide +kernel) rfl
        show W p l e _ s m args below meth c H locs _ _ _ (F0 m 32 ls [.int (nI 1)])
        obtain ⟨ji, hji, eji⟩ := pred_bd40 (by assumption) f_11 f_12
        rw [eji] at hl
        refine lv_if_ne (tgt := 39) hx hb dX7_write_32 (by decide) (fun _ => ?_) (fun c => absurd (show (nI 1) = 0 from c) (by decide +kernel))
        refine lv_aload_n hx hb dX7_write_39 rfl (lv_at hl 1 rfl) ?_
        refine g_get hC V (ci := 7) uwX7 0 rfl rfl 4 (by decide) w_253 rfl rfl dX7_write_40 ?_
        refine lv_iload_n hx hb dX7_write_43 rfl (lv_at hl 2 rfl) ?_
        refine g_aald hC V 1 5 rfl rfl (vp_in_nI (by decide) (by decide)) (v := .ref ra0) (by rw [nI_clamp (by decide)]; rfl) dX7_write_44 ?_
        refine lv_iload_n hx hb dX7_write_45 rfl (lv_at hl 3 rfl) ?_
        refine lv_lload_n hx hb dX7_write_46 rfl (lv_at hl 4 rfl) ?_
        refine g_callVU (nA := 2) hC V hl.1 (r_put l D T ra0 ji vv rah raz ra1 ras raf (by first | assumption | omega) (by first | assumption | omega)) w_871 w_872 w_873 w_8 w_874 (by decide +kernel) rfl ⟨(Nat.le_of_ble_eq_true rfl), (Nat.le_of_ble_eq_true rfl)⟩ 2 (ci := 1) rfl rfl [2, 3] rfl rfl (Nat.le_of_ble_eq_true rfl) dX7_write_47 ⟨(Nat.le_of_ble_eq_true rfl), (Nat.le_of_ble_eq_true rfl)⟩ rfl (fun r w1 H locs hQ V => ?_)
        obtain ⟨rfl, rfl⟩ := hQ
        have V : gW D T A s [(o, .inr (7, [.ref n0, .ref s0, .ref im, .ref iz, .ref rw, .ref t0, .ref u0, .ref h0, .ref y0, sv])), (rw, .inl (T 5, 4, .inr (.inr (.inr (.inr (va_up (va_up (va_up (va_up (fun _ => none) 0 (some ra0)) 1 (some rb0)) 2 (some rc0)) 3 (some rd0))))))), (ra0, .inr (1, [.int rah, .int (nI raz), .ref ra1, .int (nI ras)])), (ra1, .inl (T 1, 40, .inr (.inl (vp_updL raf ji (cutv ras vv))))), (rb0, .inr (1, [.int rbh, .int (nI rbz), .ref rb1, .int (nI rbs)])), (rb1, .inl (T 1, 40, .inr (.inl rbf))), (rc0, .inr (1, [.int rch, .int (nI rcz), .ref rc1, .int (nI rcs)])), (rc1, .inl (T 1, 40, .inr (.inl rcf))), (rd0, .inr (1, [.int rdh, .int (nI rdz), .ref rd1, .int (nI rds)])), (rd1, .inl (T 1, 40, .inr (.inl rdf)))] H locs := V _ [2, 0] rfl rfl rfl (by decide +kernel) rfl
        show W p l e _ s m args below meth c H locs _ _ _ (F0 m 50 ls [])
        refine lv_aload_n hx hb dX7_write_50 rfl (lv_at hl 1 rfl) ?_
        refine g_get hC V (ci := 7) uwX7 0 rfl rfl 4 (by decide) w_253 rfl rfl dX7_write_51 ?_
        refine lv_iload_n hx hb dX7_write_54 rfl (lv_at hl 2 rfl) ?_
        refine g_aald hC V 1 5 rfl rfl (vp_in_nI (by decide) (by decide)) (v := .ref ra0) (by rw [nI_clamp (by decide)]; rfl) dX7_write_55 ?_
        refine g_get hC V (ci := 1) uwX1 2 rfl rfl 2 (by decide) w_237 rfl rfl dX7_write_56 ?_
        refine lv_iload_n hx hb dX7_write_59 rfl (lv_at hl 3 rfl) ?_
        refine g_lald hC V 3 rfl (vp_in_nI (by omega) (by omega)) (v := ((vp_updL raf ji (cutv ras vv)) ji)) (congrArg _ (nI_clamp (by omega))) dX7_write_60 ?_
        exact g_lret (Qr := (q_x_write_f T fq fm fn o row i vv n0 s0 im iz rw t0 u0 h0 y0 sv ra0 rb0 rc0 rd0 rah raz ra1 ras raf rbh rbz rb1 rbs rbf rch rcz rc1 rcs rcf rdh rdz rd1 rds rdf)) hC V ⟨(Nat.le_of_ble_eq_true rfl), (Nat.le_of_ble_eq_true rfl)⟩ ⟨((vp_updL raf ji (cutv ras vv)) ji), (vp_updL raf ji (cutv ras vv)), rbf, rcf, rdf, rfl, rfl, (upL_same.trans (wr_y (fn := fn) (v := vv) ej_10 (by decide) hRk.1 (by omega) hRk.2.1 f_11 f_12 eji (by omega)).1), (by rw [← (wr_y (fn := fn) (v := vv) ej_10 (by decide) hRk.1 (by omega) hRk.2.1 f_11 f_12 eji (by omega)).2]; exact RW_ws h_r0), (by rw [← (wr_y (fn := fn) (v := vv) ej_10 (by decide) hRk.1 (by omega) hRk.2.1 f_11 f_12 eji (by omega)).2]; exact RW_wo h_r1 (by decide) (by omega) (by omega)), (by rw [← (wr_y (fn := fn) (v := vv) ej_10 (by decide) hRk.1 (by omega) hRk.2.1 f_11 f_12 eji (by omega)).2]; exact RW_wo h_r2 (by decide) (by omega) (by omega)), (by rw [← (wr_y (fn := fn) (v := vv) ej_10 (by decide) hRk.1 (by omega) hRk.2.1 f_11 f_12 eji (by omega)).2]; exact RW_wo h_r3 (by decide) (by omega) (by omega))⟩ dX7_write_61
      · have V : gW D T A s [(o, .inr (7, [.ref n0, .ref s0, .ref im, .ref iz, .ref rw, .ref t0, .ref u0, .ref h0, .ref y0, sv])), (rw, .inl (T 5, 4, .inr (.inr (.inr (.inr (va_up (va_up (va_up (va_up (fun _ => none) 0 (some ra0)) 1 (some rb0)) 2 (some rc0)) 3 (some rd0))))))), (ra0, .inr (1, [.int rah, .int (nI raz), .ref ra1, .int (nI ras)])), (ra1, .inl (T 1, 40, .inr (.inl raf))), (rb0, .inr (1, [.int rbh, .int (nI rbz), .ref rb1, .int (nI rbs)])), (rb1, .inl (T 1, 40, .inr (.inl rbf))), (rc0, .inr (1, [.int rch, .int (nI rcz), .ref rc1, .int (nI rcs)])), (rc1, .inl (T 1, 40, .inr (.inl rcf))), (rd0, .inr (1, [.int rdh, .int (nI rdz), .ref rd1, .int (nI rds)])), (rd1, .inl (T 1, 40, .inr (.inl rdf)))] H locs := V _ [] rfl rfl rfl (by decide +kernel) rfl
        show W p l e _ s m args below meth c H locs _ _ _ (F0 m 32 ls [.int (nI 0)])
        refine lv_if_ne (tgt := 39) hx hb dX7_write_32 (by decide) (fun c => absurd (show (nI 0) = 0 by decide +kernel) c) (fun _ => ?_)
        refine lv_ldc2 (v := (-7)) hx hb hown (hts _ w_870) dX7_write_35 ?_
        exact g_lret (Qr := (q_x_write_f T fq fm fn o row i vv n0 s0 im iz rw t0 u0 h0 y0 sv ra0 rb0 rc0 rd0 rah raz ra1 ras raf rbh rbz rb1 rbs rbf rch rcz rc1 rcs rcf rdh rdz rd1 rds rdf)) hC V ⟨(Nat.le_of_ble_eq_true rfl), (Nat.le_of_ble_eq_true rfl)⟩ ⟨(-7), raf, rbf, rcf, rdf, rfl, rfl, (wr_7 (fn := fn) (v := vv) ej_10 (by decide) (fun q => m1_ne _ (by omega) (hRk.1.symm.trans q)) hRk.2.1 f_13).1, (by rw [← (wr_7 (fn := fn) (v := vv) ej_10 (by decide) (fun q => m1_ne _ (by omega) (hRk.1.symm.trans q)) hRk.2.1 f_13).2]; exact h_r0), (by rw [← (wr_7 (fn := fn) (v := vv) ej_10 (by decide) (fun q => m1_ne _ (by omega) (hRk.1.symm.trans q)) hRk.2.1 f_13).2]; exact h_r1), (by rw [← (wr_7 (fn := fn) (v := vv) ej_10 (by decide) (fun q => m1_ne _ (by omega) (hRk.1.symm.trans q)) hRk.2.1 f_13).2]; exact h_r2), (by rw [← (wr_7 (fn := fn) (v := vv) ej_10 (by decide) (fun q => m1_ne _ (by omega) (hRk.1.symm.trans q)) hRk.2.1 f_13).2]; exact h_r3)⟩ dX7_write_38
    · have hRk := RW_y h_r1 (f_4 ej_10)
      refine lv_istore (lv' := [(5, .int (nI 0)), (0, .ref o), (1, .int (nI 1)), (2, .int i), (3, .long vv)]) hx hb dX7_write_5 hl (by decide) rfl (fun ls hl => ?_)
      refine lv_iload hx hb dX7_write_7 (lv_at hl 0 rfl) ?_
      refine lv_if_eq (tgt := 16) hx hb dX7_write_9 (by decide) (fun _ => ?_) (fun c => absurd (show (nI 0) = 0 by decide +kernel) c)
      refine lv_iload_n hx hb dX7_write_16 rfl (lv_at hl 3 rfl) ?_
      refine lv_iconst (v := (nI 0)) hx hb dX7_write_17 (by decide +kernel) ?_
      refine lv_aload_n hx hb dX7_write_18 rfl (lv_at hl 1 rfl) ?_
      refine g_get hC V (ci := 7) uwX7 0 rfl rfl 4 (by decide) w_253 rfl rfl dX7_write_19 ?_
      refine lv_iload_n hx hb dX7_write_22 rfl (lv_at hl 2 rfl) ?_
      refine g_aald hC V 1 5 rfl rfl (vp_in_nI (by decide) (by decide)) (v := .ref rb0) (by rw [nI_clamp (by decide)]; rfl) dX7_write_23 ?_
      refine g_get hC V (ci := 1) uwX1 4 rfl rfl 1 (by decide) w_232 rfl rfl dX7_write_24 ?_
      refine lv_iconst (v := (nI 1)) hx hb dX7_write_27 (by decide +kernel) ?_
      refine lv_isub hx hb dX7_write_28 ?_
      refine g_callSU (nA := 3) hC V hl.1 (c_isWithin l D T i (nI 0) ((nI rbz) - (nI 1))) w_292 w_293 w_2 w_294 (by decide +kernel) rfl ⟨(Nat.le_of_ble_eq_true rfl), (Nat.le_of_ble_eq_true rfl)⟩ [] rfl rfl (Nat.le_of_ble_eq_true rfl) dX7_write_29 ⟨(Nat.le_of_ble_eq_true rfl), (Nat.le_of_ble_eq_true rfl)⟩ rfl (fun r w1 H locs hQ V => ?_)
      rcases hQ with ⟨rfl, rfl, f_14, f_15⟩ | ⟨rfl, rfl, f_16⟩
      · have V : gW D T A s [(o, .inr (7, [.ref n0, .ref s0, .ref im, .ref iz, .ref rw, .ref t0, .ref u0, .ref h0, .ref y0, sv])), (rw, .inl (T 5, 4, .inr (.inr (.inr (.inr (va_up (va_up (va_up (va_up (fun _ => none) 0 (some ra0)) 1 (some rb0)) 2 (some rc0)) 3 (some rd0))))))), (ra0, .inr (1, [.int rah, .int (nI raz), .ref ra1, .int (nI ras)])), (ra1, .inl (T 1, 40, .inr (.inl raf))), (rb0, .inr (1, [.int rbh, .int (nI rbz), .ref rb1, .int (nI rbs)])), (rb1, .inl (T 1, 40, .inr (.inl rbf))), (rc0, .inr (1, [.int rch, .int (nI rcz), .ref rc1, .int (nI rcs)])), (rc1, .inl (T 1, 40, .inr (.inl rcf))), (rd0, .inr (1, [.int rdh, .int (nI rdz), .ref rd1, .int (nI rds)])), (rd1, .inl (T 1, 40, .inr (.inl rdf)))] H locs := V _ [] rfl rfl rfl (by decide +kernel) rfl
        show W p l e _ s m args below meth c H locs _ _ _ (F0 m 32 ls [.int (nI 1)])
        obtain ⟨ji, hji, eji⟩ := pred_bd40 (by assumption) f_14 f_15
        rw [eji] at hl
        refine lv_if_ne (tgt := 39) hx hb dX7_write_32 (by decide) (fun _ => ?_) (fun c => absurd (show (nI 1) = 0 from c) (by decide +kernel))
        refine lv_aload_n hx hb dX7_write_39 rfl (lv_at hl 1 rfl) ?_
        refine g_get hC V (ci := 7) uwX7 0 rfl rfl 4 (by decide) w_253 rfl rfl dX7_write_40 ?_
        refine lv_iload_n hx hb dX7_write_43 rfl (lv_at hl 2 rfl) ?_
        refine g_aald hC V 1 5 rfl rfl (vp_in_nI (by decide) (by decide)) (v := .ref rb0) (by rw [nI_clamp (by decide)]; rfl) dX7_write_44 ?_
        refine lv_iload_n hx hb dX7_write_45 rfl (lv_at hl 3 rfl) ?_
        refine lv_lload_n hx hb dX7_write_46 rfl (lv_at hl 4 rfl) ?_
        refine g_callVU (nA := 2) hC V hl.1 (r_put l D T rb0 ji vv rbh rbz rb1 rbs rbf (by first | assumption | omega) (by first | assumption | omega)) w_871 w_872 w_873 w_8 w_874 (by decide +kernel) rfl ⟨(Nat.le_of_ble_eq_true rfl), (Nat.le_of_ble_eq_true rfl)⟩ 4 (ci := 1) rfl rfl [4, 5] rfl rfl (Nat.le_of_ble_eq_true rfl) dX7_write_47 ⟨(Nat.le_of_ble_eq_true rfl), (Nat.le_of_ble_eq_true rfl)⟩ rfl (fun r w1 H locs hQ V => ?_)
        obtain ⟨rfl, rfl⟩ := hQ
        have V : gW D T A s [(o, .inr (7, [.ref n0, .ref s0, .ref im, .ref iz, .ref rw, .ref t0, .ref u0, .ref h0, .ref y0, sv])), (rw, .inl (T 5, 4, .inr (.inr (.inr (.inr (va_up (va_up (va_up (va_up (fun _ => none) 0 (some ra0)) 1 (some rb0)) 2 (some rc0)) 3 (some rd0))))))), (ra0, .inr (1, [.int rah, .int (nI raz), .ref ra1, .int (nI ras)])), (ra1, .inl (T 1, 40, .inr (.inl raf))), (rb0, .inr (1, [.int rbh, .int (nI rbz), .ref rb1, .int (nI rbs)])), (rb1, .inl (T 1, 40, .inr (.inl (vp_updL rbf ji (cutv rbs vv))))), (rc0, .inr (1, [.int rch, .int (nI rcz), .ref rc1, .int (nI rcs)])), (rc1, .inl (T 1, 40, .inr (.inl rcf))), (rd0, .inr (1, [.int rdh, .int (nI rdz), .ref rd1, .int (nI rds)])), (rd1, .inl (T 1, 40, .inr (.inl rdf)))] H locs := V _ [4, 0] rfl rfl rfl (by decide +kernel) rfl
        show W p l e _ s m args below meth c H locs _ _ _ (F0 m 50 ls [])
        refine lv_aload_n hx hb dX7_write_50 rfl (lv_at hl 1 rfl) ?_
        refine g_get hC V (ci := 7) uwX7 0 rfl rfl 4 (by decide) w_253 rfl rfl dX7_write_51 ?_
        refine lv_iload_n hx hb dX7_write_54 rfl (lv_at hl 2 rfl) ?_
        refine g_aald hC V 1 5 rfl rfl (vp_in_nI (by decide) (by decide)) (v := .ref rb0) (by rw [nI_clamp (by decide)]; rfl) dX7_write_55 ?_
        refine g_get hC V (ci := 1) uwX1 4 rfl rfl 2 (by decide) w_237 rfl rfl dX7_write_56 ?_
        refine lv_iload_n hx hb dX7_write_59 rfl (lv_at hl 3 rfl) ?_
        refine g_lald hC V 5 rfl (vp_in_nI (by omega) (by omega)) (v := ((vp_updL rbf ji (cutv rbs vv)) ji)) (congrArg _ (nI_clamp (by omega))) dX7_write_60 ?_
        exact g_lret (Qr := (q_x_write_f T fq fm fn o row i vv n0 s0 im iz rw t0 u0 h0 y0 sv ra0 rb0 rc0 rd0 rah raz ra1 ras raf rbh rbz rb1 rbs rbf rch rcz rc1 rcs rcf rdh rdz rd1 rds rdf)) hC V ⟨(Nat.le_of_ble_eq_true rfl), (Nat.le_of_ble_eq_true rfl)⟩ ⟨((vp_updL rbf ji (cutv rbs vv)) ji), raf, (vp_updL rbf ji (cutv rbs vv)), rcf, rdf, rfl, rfl, (upL_same.trans (wr_y (fn := fn) (v := vv) ej_10 (by decide) hRk.1 (by omega) hRk.2.1 f_14 f_15 eji (by omega)).1), (by rw [← (wr_y (fn := fn) (v := vv) ej_10 (by decide) hRk.1 (by omega) hRk.2.1 f_14 f_15 eji (by omega)).2]; exact RW_wo h_r0 (by decide) (by omega) (by omega)), (by rw [← (wr_y (fn := fn) (v := vv) ej_10 (by decide) hRk.1 (by omega) hRk.2.1 f_14 f_15 eji (by omega)).2]; exact RW_ws h_r1), (by rw [← (wr_y (fn := fn) (v := vv) ej_10 (by decide) hRk.1 (by omega) hRk.2.1 f_14 f_15 eji (by omega)).2]; exact RW_wo h_r2 (by decide) (by omega) (by omega)), (by rw [← (wr_y (fn := fn) (v := vv) ej_10 (by decide) hRk.1 (by omega) hRk.2.1 f_14 f_15 eji (by omega)).2]; exact RW_wo h_r3 (by decide) (by omega) (by omega))⟩ dX7_write_61
      · have V : gW D T A s [(o, .inr (7, [.ref n0, .ref s0, .ref im, .ref iz, .ref rw, .ref t0, .ref u0, .ref h0, .ref y0, sv])), (rw, .inl (T 5, 4, .inr (.inr (.inr (.inr (va_up (va_up (va_up (va_up (fun _ => none) 0 (some ra0)) 1 (some rb0)) 2 (some rc0)) 3 (some rd0))))))), (ra0, .inr (1, [.int rah, .int (nI raz), .ref ra1, .int (nI ras)])), (ra1, .inl (T 1, 40, .inr (.inl raf))), (rb0, .inr (1, [.int rbh, .int (nI rbz), .ref rb1, .int (nI rbs)])), (rb1, .inl (T 1, 40, .inr (.inl rbf))), (rc0, .inr (1, [.int rch, .int (nI rcz), .ref rc1, .int (nI rcs)])), (rc1, .inl (T 1, 40, .inr (.inl rcf))), (rd0, .inr (1, [.int rdh, .int (nI rdz), .ref rd1, .int (nI rds)])), (rd1, .inl (T 1, 40, .inr (.inl rdf)))] H locs := V _ [] rfl rfl rfl (by decide +kernel) rfl
        show W p l e _ s m args below meth c H locs _ _ _ (F0 m 32 ls [.int (nI 0)])
        refine lv_if_ne (tgt := 39) hx hb dX7_write_32 (by decide) (fun c => absurd (show (nI 0) = 0 by decide +kernel) c) (fun _ => ?_)
        refine lv_ldc2 (v := (-7)) hx hb hown (hts _ w_870) dX7_write_35 ?_
        exact g_lret (Qr := (q_x_write_f T fq fm fn o row i vv n0 s0 im iz rw t0 u0 h0 y0 sv ra0 rb0 rc0 rd0 rah raz ra1 ras raf rbh rbz rb1 rbs rbf rch rcz rc1 rcs rcf rdh rdz rd1 rds rdf)) hC V ⟨(Nat.le_of_ble_eq_true rfl), (Nat.le_of_ble_eq_true rfl)⟩ ⟨(-7), raf, rbf, rcf, rdf, rfl, rfl, (wr_7 (fn := fn) (v := vv) ej_10 (by decide) (fun q => m1_ne _ (by omega) (hRk.1.symm.trans q)) hRk.2.1 f_16).1, (by rw [← (wr_7 (fn := fn) (v := vv) ej_10 (by decide) (fun q => m1_ne _ (by omega) (hRk.1.symm.trans q)) hRk.2.1 f_16).2]; exact h_r0), (by rw [← (wr_7 (fn := fn) (v := vv) ej_10 (by decide) (fun q => m1_ne _ (by omega) (hRk.1.symm.trans q)) hRk.2.1 f_16).2]; exact h_r1), (by rw [← (wr_7 (fn := fn) (v := vv) ej_10 (by decide) (fun q => m1_ne _ (by omega) (hRk.1.symm.trans q)) hRk.2.1 f_16).2]; exact h_r2), (by rw [← (wr_7 (fn := fn) (v := vv) ej_10 (by decide) (fun q => m1_ne _ (by omega) (hRk.1.symm.trans q)) hRk.2.1 f_16).2]; exact h_r3)⟩ dX7_write_38
    · have hRk := RW_y h_r2 (f_5 ej_10)
      refine lv_istore (lv' := [(5, .int (nI 0)), (0, .ref o), (1, .int (nI 2)), (2, .int i), (3, .long vv)]) hx hb dX7_write_5 hl (by decide) rfl (fun ls hl => ?_)
      refine lv_iload hx hb dX7_write_7 (lv_at hl 0 rfl) ?_
      refine lv_if_eq (tgt := 16) hx hb dX7_write_9 (by decide) (fun _ => ?_) (fun c => absurd (show (nI 0) = 0 by decide +kernel) c)
      refine lv_iload_n hx hb dX7_write_16 rfl (lv_at hl 3 rfl) ?_
      refine lv_iconst (v := (nI 0)) hx hb dX7_write_17 (by decide +kernel) ?_
      refine lv_aload_n hx hb dX7_write_18 rfl (lv_at hl 1 rfl) ?_
      refine g_get hC V (ci := 7) uwX7 0 rfl rfl 4 (by decide) w_253 rfl rfl dX7_write_19 ?_
      refine lv_iload_n hx hb dX7_write_22 rfl (lv_at hl 2 rfl) ?_
      refine g_aald hC V 1 5 rfl rfl (vp_in_nI (by decide) (by decide)) (v := .ref rc0) (by rw [nI_clamp (by decide)]; rfl) dX7_write_23 ?_
      refine g_get hC V (ci := 1) uwX1 6 rfl rfl 1 (by decide) w_232 rfl rfl dX7_write_24 ?_
      refine lv_iconst (v := (nI 1)) hx hb dX7_write_27 (by decide +kernel) ?_
      refine lv_isub hx hb dX7_write_28 ?_
      refine g_callSU (nA := 3) hC V hl.1 (c_isWithin l D T i (nI 0) ((nI rcz) - (nI 1))) w_292 w_293 w_2 w_294 (by decide +kernel) rfl ⟨(Nat.le_of_ble_eq_true rfl), (Nat.le_of_ble_eq_true rfl)⟩ [] rfl rfl (Nat.le_of_ble_eq_true rfl) dX7_write_29 ⟨(Nat.le_of_ble_eq_true rfl), (Nat.le_of_ble_eq_true rfl)⟩ rfl (fun r w1 H locs hQ V => ?_)
      rcases hQ with ⟨rfl, rfl, f_17, f_18⟩ | ⟨rfl, rfl, f_19⟩
      · have V : gW D T A s [(o, .inr (7, [.ref n0, .ref s0, .ref im, .ref iz, .ref rw, .ref t0, .ref u0, .ref h0, .ref y0, sv])), (rw, .inl (T 5, 4, .inr (.inr (.inr (.inr (va_up (va_up (va_up (va_up (fun _ => none) 0 (some ra0)) 1 (some rb0)) 2 (some rc0)) 3 (some rd0))))))), (ra0, .inr (1, [.int rah, .int (nI raz), .ref ra1, .int (nI ras)])), (ra1, .inl (T 1, 40, .inr (.inl raf))), (rb0, .inr (1, [.int rbh, .int (nI rbz), .ref rb1, .int (nI rbs)])), (rb1, .inl (T 1, 40, .inr (.inl rbf))), (rc0, .inr (1, [.int rch, .int (nI rcz), .ref rc1, .int (nI rcs)])), (rc1, .inl (T 1, 40, .inr (.inl rcf))), (rd0, .inr (1, [.int rdh, .int (nI rdz), .ref rd1, .int (nI rds)])), (rd1, .inl (T 1, 40, .inr (.inl rdf)))] H locs := V _ [] rfl rfl rfl (by decide +kernel) rfl
        show W p l e _ s m args below meth c H locs _ _ _ (F0 m 32 ls [.int (nI 1)])
        obtain ⟨ji, hji, eji⟩ := pred_bd40 (by assumption) f_17 f_18
        rw [eji] at hl
        refine lv_if_ne (tgt := 39) hx hb dX7_write_32 (by decide) (fun _ => ?_) (fun c => absurd (show (nI 1) = 0 from c) (by decide +kernel))
        refine lv_aload_n hx hb dX7_write_39 rfl (lv_at hl 1 rfl) ?_
        refine g_get hC V (ci := 7) uwX7 0 rfl rfl 4 (by decide) w_253 rfl rfl dX7_write_40 ?_
        refine lv_iload_n hx hb dX7_write_43 rfl (lv_at hl 2 rfl) ?_
        refine g_aald hC V 1 5 rfl rfl (vp_in_nI (by decide) (by decide)) (v := .ref rc0) (by rw [nI_clamp (by decide)]; rfl) dX7_write_44 ?_
        refine lv_iload_n hx hb dX7_write_45 rfl (lv_at hl 3 rfl) ?_
        refine lv_lload_n hx hb dX7_write_46 rfl (lv_at hl 4 rfl) ?_
        refine g_callVU (nA := 2) hC V hl.1 (r_put l D T rc0 ji vv rch rcz rc1 rcs rcf (by first | assumption | omega) (by first | assumption | omega)) w_871 w_872 w_873 w_8 w_874 (by decide +kernel) rfl ⟨(Nat.le_of_ble_eq_true rfl), (Nat.le_of_ble_eq_true rfl)⟩ 6 (ci := 1) rfl rfl [6, 7] rfl rfl (Nat.le_of_ble_eq_true rfl) dX7_write_47 ⟨(Nat.le_of_ble_eq_true rfl), (Nat.le_of_ble_eq_true rfl)⟩ rfl (fun r w1 H locs hQ V => ?_)
        obtain ⟨rfl, rfl⟩ := hQ
        have V : gW D T A s [(o, .inr (7, [.ref n0, .ref s0, .ref im, .ref iz, .ref rw, .ref t0, .ref u0, .ref h0, .ref y0, sv])), (rw, .inl (T 5, 4, .inr (.inr (.inr (.inr (va_up (va_up (va_up (va_up (fun _ => none) 0 (some ra0)) 1 (some rb0)) 2 (some rc0)) 3 (some rd0))))))), (ra0, .inr (1, [.int rah, .int (nI raz), .ref ra1, .int (nI ras)])), (ra1, .inl (T 1, 40, .inr (.inl raf))), (rb0, .inr (1, [.int rbh, .int (nI rbz), .ref rb1, .int (nI rbs)])), (rb1, .inl (T 1, 40, .inr (.inl rbf))), (rc0, .inr (1, [.int rch, .int (nI rcz), .ref rc1, .int (nI rcs)])), (rc1, .inl (T 1, 40, .inr (.inl (vp_updL rcf ji (cutv rcs vv))))), (rd0, .inr (1, [.int rdh, .int (nI rdz), .ref rd1, .int (nI rds)])), (rd1, .inl (T 1, 40, .inr (.inl rdf)))] H locs := V _ [6, 0] rfl rfl rfl (by decide +kernel) rfl
        show W p l e _ s m args below meth c H locs _ _ _ (F0 m 50 ls [])
        refine lv_aload_n hx hb dX7_write_50 rfl (lv_at hl 1 rfl) ?_
        refine g_get hC V (ci := 7) uwX7 0 rfl rfl 4 (by decide) w_253 rfl rfl dX7_write_51 ?_
        refine lv_iload_n hx hb dX7_write_54 rfl (lv_at hl 2 rfl) ?_
        refine g_aald hC V 1 5 rfl rfl (vp_in_nI (by decide) (by decide)) (v := .ref rc0) (by rw [nI_clamp (by decide)]; rfl) dX7_write_55 ?_
        refine g_get hC V (ci := 1) uwX1 6 rfl rfl 2 (by decide) w_237 rfl rfl dX7_write_56 ?_
        refine lv_iload_n hx hb dX7_write_59 rfl (lv_at hl 3 rfl) ?_
        refine g_lald hC V 7 rfl (vp_in_nI (by omega) (by omega)) (v := ((vp_updL rcf ji (cutv rcs vv)) ji)) (congrArg _ (nI_clamp (by omega))) dX7_write_60 ?_
        exact g_lret (Qr := (q_x_write_f T fq fm fn o row i vv n0 s0 im iz rw t0 u0 h0 y0 sv ra0 rb0 rc0 rd0 rah raz ra1 ras raf rbh rbz rb1 rbs rbf rch rcz rc1 rcs rcf rdh rdz rd1 rds rdf)) hC V ⟨(Nat.le_of_ble_eq_true rfl), (Nat.le_of_ble_eq_true rfl)⟩ ⟨((vp_updL rcf ji (cutv rcs vv)) ji), raf, rbf, (vp_updL rcf ji (cutv rcs vv)), rdf, rfl, rfl, (upL_same.trans (wr_y (fn := fn) (v := vv) ej_10 (by decide) hRk.1 (by omega) hRk.2.1 f_17 f_18 eji (by omega)).1), (by rw [← (wr_y (fn := fn) (v := vv) ej_10 (by decide) hRk.1 (by omega) hRk.2.1 f_17 f_18 eji (by omega)).2]; exact RW_wo h_r0 (by decide) (by omega) (by omega)), (by rw [← (wr_y (fn := fn) (v := vv) ej_10 (by decide) hRk.1 (by omega) hRk.2.1 f_17 f_18 eji (by omega)).2]; exact RW_wo h_r1 (by decide) (by omega) (by omega)), (by rw [← (wr_y (fn := fn) (v := vv) ej_10 (by decide) hRk.1 (by omega) hRk.2.1 f_17 f_18 eji (by omega)).2]; exact RW_ws h_r2), (by rw [← (wr_y (fn := fn) (v := vv) ej_10 (by decide) hRk.1 (by omega) hRk.2.1 f_17 f_18 eji (by omega)).2]; exact RW_wo h_r3 (by decide) (by omega) (by omega))⟩ dX7_write_61
      · have V : gW D T A s [(o, .inr (7, [.ref n0, .ref s0, .ref im, .ref iz, .ref rw, .ref t0, .ref u0, .ref h0, .ref y0, sv])), (rw, .inl (T 5, 4, .inr (.inr (.inr (.inr (va_up (va_up (va_up (va_up (fun _ => none) 0 (some ra0)) 1 (some rb0)) 2 (some rc0)) 3 (some rd0))))))), (ra0, .inr (1, [.int rah, .int (nI raz), .ref ra1, .int (nI ras)])), (ra1, .inl (T 1, 40, .inr (.inl raf))), (rb0, .inr (1, [.int rbh, .int (nI rbz), .ref rb1, .int (nI rbs)])), (rb1, .inl (T 1, 40, .inr (.inl rbf))), (rc0, .inr (1, [.int rch, .int (nI rcz), .ref rc1, .int (nI rcs)])), (rc1, .inl (T 1, 40, .inr (.inl rcf))), (rd0, .inr (1, [.int rdh, .int (nI rdz), .ref rd1, .int (nI rds)])), (rd1, .inl (T 1, 40, .inr (.inl rdf)))] H locs := V _ [] rfl rfl rfl (by decide +kernel) rfl
        show W p l e _ s m args below meth c H locs _ _ _ (F0 m 32 ls [.int (nI 0)])
        refine lv_if_ne (tgt := 39) hx hb dX7_write_32 (by decide) (fun c => absurd (show (nI 0) = 0 by decide +kernel) c) (fun _ => ?_)
        refine lv_ldc2 (v := (-7)) hx hb hown (hts _ w_870) dX7_write_35 ?_
        exact g_lret (Qr := (q_x_write_f T fq fm fn o row i vv n0 s0 im iz rw t0 u0 h0 y0 sv ra0 rb0 rc0 rd0 rah raz ra1 ras raf rbh rbz rb1 rbs rbf rch rcz rc1 rcs rcf rdh rdz rd1 rds rdf)) hC V ⟨(Nat.le_of_ble_eq_true rfl), (Nat.le_of_ble_eq_true rfl)⟩ ⟨(-7), raf, rbf, rcf, rdf, rfl, rfl, (wr_7 (fn := fn) (v := vv) ej_10 (by decide) (fun q => m1_ne _ (by omega) (hRk.1.symm.trans q)) hRk.2.1 f_19).1, (by rw [← (wr_7 (fn := fn) (v := vv) ej_10 (by decide) (fun q => m1_ne _ (by omega) (hRk.1.symm.trans q)) hRk.2.1 f_19).2]; exact h_r0), (by rw [← (wr_7 (fn := fn) (v := vv) ej_10 (by decide) (fun q => m1_ne _ (by omega) (hRk.1.symm.trans q)) hRk.2.1 f_19).2]; exact h_r1), (by rw [← (wr_7 (fn := fn) (v := vv) ej_10 (by decide) (fun q => m1_ne _ (by omega) (hRk.1.symm.trans q)) hRk.2.1 f_19).2]; exact h_r2), (by rw [← (wr_7 (fn := fn) (v := vv) ej_10 (by decide) (fun q => m1_ne _ (by omega) (hRk.1.symm.trans q)) hRk.2.1 f_19).2]; exact h_r3)⟩ dX7_write_38
    · have hRk := RW_y h_r3 (f_6 ej_10)
      refine lv_istore (lv' := [(5, .int (nI 0)), (0, .ref o), (1, .int (nI 3)), (2, .int i), (3, .long vv)]) hx hb dX7_write_5 hl (by decide) rfl (fun ls hl => ?_)
      refine lv_iload hx hb dX7_write_7 (lv_at hl 0 rfl) ?_
      refine lv_if_eq (tgt := 16) hx hb dX7_write_9 (by decide) (fun _ => ?_) (fun c => absurd (show (nI 0) = 0 by decide +kernel) c)
      refine lv_iload_n hx hb dX7_write_16 rfl (lv_at hl 3 rfl) ?_
      refine lv_iconst (v := (nI 0)) hx hb dX7_write_17 (by decide +kernel) ?_
      refine lv_aload_n hx hb dX7_write_18 rfl (lv_at hl 1 rfl) ?_
      refine g_get hC V (ci := 7) uwX7 0 rfl rfl 4 (by decide) w_253 rfl rfl dX7_write_19 ?_
      refine lv_iload_n hx hb dX7_write_22 rfl (lv_at hl 2 rfl) ?_
      refine g_aald hC V 1 5 rfl rfl (vp_in_nI (by decide) (by decide)) (v := .ref rd0) (by rw [nI_clamp (by decide)]; rfl) dX7_write_23 ?_
      refine g_get hC V (ci := 1) uwX1 8 rfl rfl 1 (by decide) w_232 rfl rfl dX7_write_24 ?_
      refine lv_iconst (v := (nI 1)) hx hb dX7_write_27 (by decide +kernel) ?_
      refine lv_isub hx hb dX7_write_28 ?_
      refine g_callSU (nA := 3) hC V hl.1 (c_isWithin l D T i (nI 0) ((nI rdz) - (nI 1))) w_292 w_293 w_2 w_294 (by decide +kernel) rfl ⟨(Nat.le_of_ble_eq_true rfl), (Nat.le_of_ble_eq_true rfl)⟩ [] rfl rfl (Nat.le_of_ble_eq_true rfl) dX7_write_29 ⟨(Nat.le_of_ble_eq_true rfl), (Nat.le_of_ble_eq_true rfl)⟩ rfl (fun r w1 H locs hQ V => ?_)
      rcases hQ with ⟨rfl, rfl, f_20, f_21⟩ | ⟨rfl, rfl, f_22⟩
      · have V : gW D T A s [(o, .inr (7, [.ref n0, .ref s0, .ref im, .ref iz, .ref rw, .ref t0, .ref u0, .ref h0, .ref y0, sv])), (rw, .inl (T 5, 4, .inr (.inr (.inr (.inr (va_up (va_up (va_up (va_up (fun _ => none) 0 (some ra0)) 1 (some rb0)) 2 (some rc0)) 3 (some rd0))))))), (ra0, .inr (1, [.int rah, .int (nI raz), .ref ra1, .int (nI ras)])), (ra1, .inl (T 1, 40, .inr (.inl raf))), (rb0, .inr (1, [.int rbh, .int (nI rbz), .ref rb1, .int (nI rbs)])), (rb1, .inl (T 1, 40, .inr (.inl rbf))), (rc0, .inr (1, [.int rch, .int (nI rcz), .ref rc1, .int (nI rcs)])), (rc1, .inl (T 1, 40, .inr (.inl rcf))), (rd0, .inr (1, [.int rdh, .int (nI rdz), .ref rd1, .int (nI rds)])), (rd1, .inl (T 1, 40, .inr (.inl rdf)))] H locs := V _ [] rfl rfl rfl (by decide +kernel) rfl
        show W p l e _ s m args below meth c H locs _ _ _ (F0 m 32 ls [.int (nI 1)])
        obtain ⟨ji, hji, eji⟩ := pred_bd40 (by assumption) f_20 f_21
        rw [eji] at hl
        refine lv_if_ne (tgt := 39) hx hb dX7_write_32 (by decide) (fun _ => ?_) (fun c => absurd (show (nI 1) = 0 from c) (by decide +kernel))
        refine lv_aload_n hx hb dX7_write_39 rfl (lv_at hl 1 rfl) ?_
        refine g_get hC V (ci := 7) uwX7 0 rfl rfl 4 (by decide) w_253 rfl rfl dX7_write_40 ?_
        refine lv_iload_n hx hb dX7_write_43 rfl (lv_at hl 2 rfl) ?_
        refine g_aald hC V 1 5 rfl rfl (vp_in_nI (by decide) (by decide)) (v := .ref rd0) (by rw [nI_clamp (by decide)]; rfl) dX7_write_44 ?_
        refine lv_iload_n hx hb dX7_write_45 rfl (lv_at hl 3 rfl) ?_
        refine lv_lload_n hx hb dX7_write_46 rfl (lv_at hl 4 rfl) ?_
        refine g_callVU (nA := 2) hC V hl.1 (r_put l D T rd0 ji vv rdh rdz rd1 rds rdf (by first | assumption | omega) (by first | assumption | omega)) w_871 w_872 w_873 w_8 w_874 (by decide +kernel) rfl ⟨(Nat.le_of_ble_eq_true rfl), (Nat.le_of_ble_eq_true rfl)⟩ 8 (ci := 1) rfl rfl [8, 9] rfl rfl (Nat.le_of_ble_eq_true rfl) dX7_write_47 ⟨(Nat.le_of_ble_eq_true rfl), (Nat.le_of_ble_eq_true rfl)⟩ rfl (fun r w1 H locs hQ V => ?_)
        obtain ⟨rfl, rfl⟩ := hQ
        have V : gW D T A s [(o, .inr (7, [.ref n0, .ref s0, .ref im, .ref iz, .ref rw, .ref t0, .ref u0, .ref h0, .ref y0, sv])), (rw, .inl (T 5, 4, .inr (.inr (.inr (.inr (va_up (va_up (va_up (va_up (fun _ => none) 0 (some ra0)) 1 (some rb0)) 2 (some rc0)) 3 (some rd0))))))), (ra0, .inr (1, [.int rah, .int (nI raz), .ref ra1, .int (nI ras)])), (ra1, .inl (T 1, 40, .inr (.inl raf))), (rb0, .inr (1, [.int rbh, .int (nI rbz), .ref rb1, .int (nI rbs)])), (rb1, .inl (T 1, 40, .inr (.inl rbf))), (rc0, .inr (1, [.int rch, .int (nI rcz), .ref rc1, .int (nI rcs)])), (rc1, .inl (T 1, 40, .inr (.inl rcf))), (rd0, .inr (1, [.int rdh, .int (nI rdz), .ref rd1, .int (nI rds)])), (rd1, .inl (T 1, 40, .inr (.inl (vp_updL rdf ji (cutv rds vv)))))] H locs := V _ [8, 0] rfl rfl rfl (by decide +kernel) rfl
        show W p l e _ s m args below meth c H locs _ _ _ (F0 m 50 ls [])
        refine lv_aload_n hx hb dX7_write_50 rfl (lv_at hl 1 rfl) ?_
        refine g_get hC V (ci := 7) uwX7 0 rfl rfl 4 (by decide) w_253 rfl rfl dX7_write_51 ?_
        refine lv_iload_n hx hb dX7_write_54 rfl (lv_at hl 2 rfl) ?_
        refine g_aald hC V 1 5 rfl rfl (vp_in_nI (by decide) (by decide)) (v := .ref rd0) (by rw [nI_clamp (by decide)]; rfl) dX7_write_55 ?_
        refine g_get hC V (ci := 1) uwX1 8 rfl rfl 2 (by decide) w_237 rfl rfl dX7_write_56 ?_
        refine lv_iload_n hx hb dX7_write_59 rfl (lv_at hl 3 rfl) ?_
        refine g_lald hC V 9 rfl (vp_in_nI (by omega) (by omega)) (v := ((vp_updL rdf ji (cutv rds vv)) ji)) (congrArg _ (nI_clamp (by omega))) dX7_write_60 ?_
        exact g_lret (Qr := (q_x_write_f T fq fm fn o row i vv n0 s0 im iz rw t0 u0 h0 y0 sv ra0 rb0 rc0 rd0 rah raz ra1 ras raf rbh rbz rb1 rbs rbf rch rcz rc1 rcs rcf rdh rdz rd1 rds rdf)) hC V ⟨(Nat.le_of_ble_eq_true rfl), (Nat.le_of_ble_eq_true rfl)⟩ ⟨((vp_updL rdf ji (cutv rds vv)) ji), raf, rbf, rcf, (vp_updL rdf ji (cutv rds vv)), rfl, rfl, (upL_same.trans (wr_y (fn := fn) (v := vv) ej_10 (by decide) hRk.1 (by omega) hRk.2.1 f_20 f_21 eji (by omega)).1), (by rw [← (wr_y (fn := fn) (v := vv) ej_10 (by decide) hRk.1 (by omega) hRk.2.1 f_20 f_21 eji (by omega)).2]; exact RW_wo h_r0 (by decide) (by omega) (by omega)), (by rw [← (wr_y (fn := fn) (v := vv) ej_10 (by decide) hRk.1 (by omega) hRk.2.1 f_20 f_21 eji (by omega)).2]; exact RW_wo h_r1 (by decide) (by omega) (by omega)), (by rw [← (wr_y (fn := fn) (v := vv) ej_10 (by decide) hRk.1 (by omega) hRk.2.1 f_20 f_21 eji (by omega)).2]; exact RW_wo h_r2 (by decide) (by omega) (by omega)), (by rw [← (wr_y (fn := fn) (v := vv) ej_10 (by decide) hRk.1 (by omega) hRk.2.1 f_20 f_21 eji (by omega)).2]; exact RW_ws h_r3)⟩ dX7_write_61
      · have V : gW D T A s [(o, .inr (7, [.ref n0, .ref s0, .ref im, .ref iz, .ref rw, .ref t0, .ref u0, .ref h0, .ref y0, sv])), (rw, .inl (T 5, 4, .inr (.inr (.inr (.inr (va_up (va_up (va_up (va_up (fun _ => none) 0 (some ra0)) 1 (some rb0)) 2 (some rc0)) 3 (some rd0))))))), (ra0, .inr (1, [.int rah, .int (nI raz), .ref ra1, .int (nI ras)])), (ra1, .inl (T 1, 40, .inr (.inl raf))), (rb0, .inr (1, [.int rbh, .int (nI rbz), .ref rb1, .int (nI rbs)])), (rb1, .inl (T 1, 40, .inr (.inl rbf))), (rc0, .inr (1, [.int rch, .int (nI rcz), .ref rc1, .int (nI rcs)])), (rc1, .inl (T 1, 40, .inr (.inl rcf))), (rd0, .inr (1, [.int rdh, .int (nI rdz), .ref rd1, .int (nI rds)])), (rd1, .inl (T 1, 40, .inr (.inl rdf)))] H locs := V _ [] rfl rfl rfl (by decide +kernel) rfl
        show W p l e _ s m args below meth c H locs _ _ _ (F0 m 32 ls [.int (nI 0)])
        refine lv_if_ne (tgt := 39) hx hb dX7_write_32 (by decide) (fun c => absurd (show (nI 0) = 0 by decide +kernel) c) (fun _ => ?_)
        refine lv_ldc2 (v := (-7)) hx hb hown (hts _ w_870) dX7_write_35 ?_
        exact g_lret (Qr := (q_x_write_f T fq fm fn o row i vv n0 s0 im iz rw t0 u0 h0 y0 sv ra0 rb0 rc0 rd0 rah raz ra1 ras raf rbh rbz rb1 rbs rbf rch rcz rc1 rcs rcf rdh rdz rd1 rds rdf)) hC V ⟨(Nat.le_of_ble_eq_true rfl), (Nat.le_of_ble_eq_true rfl)⟩ ⟨(-7), raf, rbf, rcf, rdf, rfl, rfl, (wr_7 (fn := fn) (v := vv) ej_10 (by decide) (fun q => m1_ne _ (by omega) (hRk.1.symm.trans q)) hRk.2.1 f_22).1, (by rw [← (wr_7 (fn := fn) (v := vv) ej_10 (by decide) (fun q => m1_ne _ (by omega) (hRk.1.symm.trans q)) hRk.2.1 f_22).2]; exact h_r0), (by rw [← (wr_7 (fn := fn) (v := vv) ej_10 (by decide) (fun q => m1_ne _ (by omega) (hRk.1.symm.trans q)) hRk.2.1 f_22).2]; exact h_r1), (by rw [← (wr_7 (fn := fn) (v := vv) ej_10 (by decide) (fun q => m1_ne _ (by omega) (hRk.1.symm.trans q)) hRk.2.1 f_22).2]; exact h_r2), (by rw [← (wr_7 (fn := fn) (v := vv) ej_10 (by decide) (fun q => m1_ne _ (by omega) (hRk.1.symm.trans q)) hRk.2.1 f_22).2]; exact h_r3)⟩ dX7_write_38
  · have V : gW D T A s [(o, .inr (7, [.ref n0, .ref s0, .ref im, .ref iz, .ref rw, .ref t0, .ref u0, .ref h0, .ref y0, sv])), (rw, .inl (T 5, 4, .inr (.inr (.inr (.inr (va_up (va_up (va_up (va_up (fun _ => none) 0 (some ra0)) 1 (some rb0)) 2 (some rc0)) 3 (some rd0))))))), (ra0, .inr (1, [.int rah, .int (nI raz), .ref ra1, .int (nI ras)])), (ra1, .inl (T 1, 40, .inr (.inl raf))), (rb0, .inr (1, [.int rbh, .int (nI rbz), .ref rb1, .int (nI rbs)])), (rb1, .inl (T 1, 40, .inr (.inl rbf))), (rc0, .inr (1, [.int rch, .int (nI rcz), .ref rc1, .int (nI rcs)])), (rc1, .inl (T 1, 40, .inr (.inl rcf))), (rd0, .inr (1, [.int rdh, .int (nI rdz), .ref rd1, .int (nI rds)])), (rd1, .inl (T 1, 40, .inr (.inl rdf)))] H locs := V
    show W p l e _ s m args below meth c H locs _ _ _ (F0 m 5 ls [.int z_7])
    refine lv_istore (lv' := [(5, .int z_7), (0, .ref o), (1, .int row), (2, .int i), (3, .long vv)]) hx hb dX7_write_5 hl (by decide) rfl (fun ls hl => ?_)
    refine lv_iload hx hb dX7_write_7 (lv_at hl 0 rfl) ?_
    refine lv_if_eq (tgt := 16) hx hb dX7_write_9 (by decide) (fun c_23 => ?_) (fun c_23 => ?_)
    · skip
      exact (absurd c_23 (by assumption) : False).elim
    · skip
      refine lv_iload hx hb dX7_write_12 (lv_at hl 0 rfl) ?_
      refine lv_i2l (v := z_7.toInt64) hx hb dX7_write_14 rfl ?_
      exact g_lret (Qr := (q_x_write_f T fq fm fn o row i vv n0 s0 im iz rw t0 u0 h0 y0 sv ra0 rb0 rc0 rd0 rah raz ra1 ras raf rbh rbz rb1 rbs rbf rch rcz rc1 rcs rcf rdh rdz rd1 rds rdf)) hC V ⟨(Nat.le_of_ble_eq_true rfl), (Nat.le_of_ble_eq_true rfl)⟩ ⟨z_7.toInt64, raf, rbf, rcf, rdf, rfl, rfl, (wr_r (fn := fn) (fm := fm) (i := i) (v := vv) (f_9.trans (rr_eq (RW_0 h_r0 h_sra) (RW_0 h_r1 h_srb) (RW_0 h_r2 h_src) (RW_0 h_r3 h_srd))) f_8).1, (by rw [← (wr_r (fn := fn) (fm := fm) (i := i) (v := vv) (f_9.trans (rr_eq (RW_0 h_r0 h_sra) (RW_0 h_r1 h_srb) (RW_0 h_r2 h_src) (RW_0 h_r3 h_srd))) f_8).2]; exact h_r0), (by rw [← (wr_r (fn := fn) (fm := fm) (i := i) (v := vv) (f_9.trans (rr_eq (RW_0 h_r0 h_sra) (RW_0 h_r1 h_srb) (RW_0 h_r2 h_src) (RW_0 h_r3 h_srd))) f_8).2]; exact h_r1), (by rw [← (wr_r (fn := fn) (fm := fm) (i := i) (v := vv) (f_9.trans (rr_eq (RW_0 h_r0 h_sra) (RW_0 h_r1 h_srb) (RW_0 h_r2 h_src) (RW_0 h_r3 h_srd))) f_8).2]; exact h_r2), (by rw [← (wr_r (fn := fn) (fm := fm) (i := i) (v := vv) (f_9.trans (rr_eq (RW_0 h_r0 h_sra) (RW_0 h_r1 h_srb) (RW_0 h_r2 h_src) (RW_0 h_r3 h_srd))) f_8).2]; exact h_r3)⟩ dX7_write_15

def q_m_cut_f (T : Nat → ClassId) (v : Int64) (s_ : Int32) : Option Value → va_W → Prop := fun rr ww => (∃ (z : Int64), rr = some (.long z) ∧ ww = [] ∧ z = cutv s_.toNatClampNeg v)
set_option maxHeartbeats 4000000 in
set_option maxRecDepth 100000 in
theorem m_cut_f (l : Launch) (D : va_G) (T : Nat → ClassId) (v : Int64) (s_ : Int32) (h_s : bd s_ 4) : Ct l yX8_cut cX8_cut 3 (some .long) 0 0 0 D T [.long v, .int s_] [] (q_m_cut_f T v s_) := by
  refine Ct.of (cc := cX8_cut) (maxL := 3) (ret := (some .long)) (by decide) (Nat.le_of_ble_eq_true rfl) ?_
  intro p e s m args below meth c A ls hC hnm V hl
  obtain ⟨hx, hb, hr, hml, hown, hts, hlocks⟩ := id hC
  generalize hH : s.heap = H at V ⊢
  clear hH
  have hl : lv_has ls 3 [(0, .long v), (2, .int s_)] := hl
  generalize hlo : ([] : List Loc) = locs at V ⊢
  clear hlo
  refine lv_iload_n hx hb dX8_cut_0 rfl (lv_at hl 1 rfl) ?_
  refine lv_if_ne (tgt := 11) hx hb dX8_cut_1 (by decide) (fun c_1 => ?_) (fun c_1 => ?_)
  · skip
    refine lv_iload_n hx hb dX8_cut_11 rfl (lv_at hl 1 rfl) ?_
    refine lv_iconst (v := (nI 1)) hx hb dX8_cut_12 (by decide +kernel) ?_
    refine lv_icmp_ne (tgt := 23) hx hb dX8_cut_13 (by decide) (fun c_2 => ?_) (fun c_2 => ?_)
    · skip
      refine lv_iload_n hx hb dX8_cut_23 rfl (lv_at hl 1 rfl) ?_
      refine lv_iconst (v := (nI 2)) hx hb dX8_cut_24 (by decide +kernel) ?_
      refine lv_icmp_ne (tgt := 34) hx hb dX8_cut_25 (by decide) (fun c_3 => ?_) (fun c_3 => ?_)
      · skip
        refine lv_lload_n hx hb dX8_cut_34 rfl (lv_at hl 0 rfl) ?_
        exact g_lret (Qr := (q_m_cut_f T v s_)) hC V ⟨(Nat.le_of_ble_eq_true rfl), (Nat.le_of_ble_eq_true rfl)⟩ ⟨v, rfl, rfl, (mc_3 h_s (by assumption) (by assumption) (by assumption))⟩ dX8_cut_35
      · skip
        refine lv_lload_n hx hb dX8_cut_28 rfl (lv_at hl 0 rfl) ?_
        refine lv_l2i hx hb dX8_cut_29 rfl ?_
        refine lv_i2l (v := v.toInt32.toInt64) hx hb dX8_cut_30 rfl ?_
        refine lv_goto (tgt := 35) hx hb dX8_cut_31 (by decide) ?_
        exact g_lret (Qr := (q_m_cut_f T v s_)) hC V ⟨(Nat.le_of_ble_eq_true rfl), (Nat.le_of_ble_eq_true rfl)⟩ ⟨v.toInt32.toInt64, rfl, rfl, (mc_2 (by assumption))⟩ dX8_cut_35
    · skip
      refine lv_lload_n hx hb dX8_cut_16 rfl (lv_at hl 0 rfl) ?_
      refine lv_l2i hx hb dX8_cut_17 rfl ?_
      refine lv_i2s hx hb dX8_cut_18 rfl ?_
      refine lv_i2l (v := ((v.toInt32).toInt16.toInt32).toInt64) hx hb dX8_cut_19 rfl ?_
      refine lv_goto (tgt := 35) hx hb dX8_cut_20 (by decide) ?_
      exact g_lret (Qr := (q_m_cut_f T v s_)) hC V ⟨(Nat.le_of_ble_eq_true rfl), (Nat.le_of_ble_eq_true rfl)⟩ ⟨(((v.toInt32).toInt16.toInt32).toInt64), rfl, rfl, (mc_1 (by assumption))⟩ dX8_cut_35
  · skip
    refine lv_lload_n hx hb dX8_cut_4 rfl (lv_at hl 0 rfl) ?_
    refine lv_l2i hx hb dX8_cut_5 rfl ?_
    refine lv_i2b hx hb dX8_cut_6 rfl ?_
    refine lv_i2l (v := ((v.toInt32).toInt8.toInt32).toInt64) hx hb dX8_cut_7 rfl ?_
    refine lv_goto (tgt := 35) hx hb dX8_cut_8 (by decide) ?_
    exact g_lret (Qr := (q_m_cut_f T v s_)) hC V ⟨(Nat.le_of_ble_eq_true rfl), (Nat.le_of_ble_eq_true rfl)⟩ ⟨(((v.toInt32).toInt8.toInt32).toInt64), rfl, rfl, (mc_0 (by assumption))⟩ dX8_cut_35

def q_m_write_f (T : Nat → ClassId) (o : Nat) (row : Int32) (i : Int32) (vv : Int64) (w0 : Int32) (g1 : Nat) (g2 : Nat) (g3 : Nat) (g4 : Nat) (tp : Nat) (w6 : Int32) (w7 : Int32) (w8 : Int32) (w9 : Int32) (w10 : Int32) (w11 : Int32) (w12 : Int32) (w13 : Int32) (w14 : Int32) (g15 : Nat) (w16 : Int32) (g17 : Nat) (w18 : Int32) (w19 : Int32) (g20 : Nat) (w21 : Int32) (g22 : Nat) (g23 : Nat) (g24 : Nat) (w25 : Int32) (w26 : Int32) (w27 : Int32) (g28 : Nat) (g29 : Nat) (w30 : Int32) (g31 : Nat) (g32 : Nat) (g33 : Nat) (fq : Nat → Int32) (fm : Nat → Int32) (fn : Nat → Int64) : Option Value → va_W → Prop := fun rr ww => (∃ (z : Int64) (gn : Nat → Int64), rr = some (.long z) ∧ ww = [(o, .inr (8, [.int (nI 0), .ref g1, .ref g2, .ref g3, .ref g4, .int (nI tp), .int w6, .int w7, .int w8, .int w9, .int w10, .int w11, .int w12, .int w13, .int w14, .ref g15, .int w16, .ref g17, .int w18, .int w19, .ref g20, .int w21, .ref g22, .ref g23, .ref g24, .int w25, .int w26, .int w27, .ref g28, .ref g29, .int w30, .ref g31, .ref g32, .ref g33])), (g31, .inl (T 0, 4, .inl fq)), (g32, .inl (T 0, 4, .inl fm)), (g33, .inl (T 1, 160, .inr (.inl gn)))] ∧ z = wrA fq fm row i vv ∧ gn = wrN fn fq fm row i vv)
set_option maxHeartbeats 4000000 in
set_option maxRecDepth 100000 in
theorem m_write_f (l : Launch) (D : va_G) (T : Nat → ClassId) (o : Nat) (row : Int32) (i : Int32) (vv : Int64) (w0 : Int32) (g1 : Nat) (g2 : Nat) (g3 : Nat) (g4 : Nat) (tp : Nat) (w6 : Int32) (w7 : Int32) (w8 : Int32) (w9 : Int32) (w10 : Int32) (w11 : Int32) (w12 : Int32) (w13 : Int32) (w14 : Int32) (g15 : Nat) (w16 : Int32) (g17 : Nat) (w18 : Int32) (w19 : Int32) (g20 : Nat) (w21 : Int32) (g22 : Nat) (g23 : Nat) (g24 : Nat) (w25 : Int32) (w26 : Int32) (w27 : Int32) (g28 : Nat) (g29 : Nat) (w30 : Int32) (g31 : Nat) (g32 : Nat) (g33 : Nat) (fq : Nat → Int32) (fm : Nat → Int32) (fn : Nat → Int64) (h_rm : ∀ i, i < 4 → bd (fm i) 41) (h_rs : ∀ i, i < 4 → (fq i = -1 ∨ bd (fq i) 4)) : Ct l yX8_write cX8_write 5 (some .long) 1 0 0 D T [.ref o, .int row, .int i, .long vv] [(o, .inr (8, [.int w0, .ref g1, .ref g2, .ref g3, .ref g4, .int (nI tp), .int w6, .int w7, .int w8, .int w9, .int w10, .int w11, .int w12, .int w13, .int w14, .ref g15, .int w16, .ref g17, .int w18, .int w19, .ref g20, .int w21, .ref g22, .ref g23, .ref g24, .int w25, .int w26, .int w27, .ref g28, .ref g29, .int w30, .ref g31, .ref g32, .ref g33])), (g31, .inl (T 0, 4, .inl fq)), (g32, .inl (T 0, 4, .inl fm)), (g33, .inl (T 1, 160, .inr (.inl fn)))] (q_m_write_f T o row i vv w0 g1 g2 g3 g4 tp w6 w7 w8 w9 w10 w11 w12 w13 w14 g15 w16 g17 w18 w19 g20 w21 g22 g23 g24 w25 w26 w27 g28 g29 w30 g31 g32 g33 fq fm fn) := by
  refine Ct.of (cc := cX8_write) (maxL := 5) (ret := (some .long)) (by decide) (Nat.le_of_ble_eq_true rfl) ?_
  intro p e s m args below meth c A ls hC hnm V hl
  obtain ⟨hx, hb, hr, hml, hown, hts, hlocks⟩ := id hC
  generalize hH : s.heap = H at V ⊢
  clear hH
  have hl : lv_has ls 5 [(0, .ref o), (1, .int row), (2, .int i), (3, .long vv)] := hl
  generalize hlo : ([] : List Loc) = locs at V ⊢
  clear hlo
  refine lv_aload_n hx hb dX8_write_0 rfl (lv_at hl 0 rfl) ?_
  refine lv_iconst (v := (nI 0)) hx hb dX8_write_1 (by decide +kernel) ?_
  refine g_put hC V (ci := 8) uwX8 tyX8 tyX8_ok nmX8 0 rfl rfl 0 (by decide) w_912 rfl rfl rfl rfl (Nat.le_of_ble_eq_true rfl) (ws' := [(o, .inr (8, [.int (nI 0), .ref g1, .ref g2, .ref g3, .ref g4, .int (nI tp), .int w6, .int w7, .int w8, .int w9, .int w10, .int w11, .int w12, .int w13, .int w14, .ref g15, .int w16, .ref g17, .int w18, .int w19, .ref g20, .int w21, .ref g22, .ref g23, .ref g24, .int w25, .int w26, .int w27, .ref g28, .ref g29, .int w30, .ref g31, .ref g32, .ref g33])), (g31, .inl (T 0, 4, .inl fq)), (g32, .inl (T 0, 4, .inl fm)), (g33, .inl (T 1, 160, .inr (.inl fn)))]) rfl dX8_write_2 (fun H locs V => ?_)
  refine lv_iload_n hx hb dX8_write_5 rfl (lv_at hl 1 rfl) ?_
  refine lv_i2l (v := row.toInt64) hx hb dX8_write_6 rfl ?_
  refine lv_lconst (v := (nI 0).toInt64) hx hb dX8_write_7 (by decide +kernel) ?_
  refine lv_ldc2 (v := (3)) hx hb hown (hts _ w_1144) dX8_write_8 ?_
  refine g_vl (y := (nI 3).toInt64) (by decide +kernel) ?_
  refine g_callSU (nA := 3) hC V hl.1 (m_within l D T row (nI 0) (nI 3)) w_1023 w_1024 w_9 w_1025 (by decide +kernel) rfl ⟨(Nat.le_of_ble_eq_true rfl), (Nat.le_of_ble_eq_true rfl)⟩ [] rfl rfl (Nat.le_of_ble_eq_true rfl) dX8_write_11 ⟨(Nat.le_of_ble_eq_true rfl), (Nat.le_of_ble_eq_true rfl)⟩ rfl (fun r w1 H locs hQ V => ?_)
  rcases hQ with ⟨rfl, rfl, f_1, f_2⟩ | ⟨rfl, rfl, f_3⟩
  · have V : gW D T A s [(o, .inr (8, [.int (nI 0), .ref g1, .ref g2, .ref g3, .ref g4, .int (nI tp), .int w6, .int w7, .int w8, .int w9, .int w10, .int w11, .int w12, .int w13, .int w14, .ref g15, .int w16, .ref g17, .int w18, .int w19, .ref g20, .int w21, .ref g22, .ref g23, .ref g24, .int w25, .int w26, .int w27, .ref g28, .ref g29, .int w30, .ref g31, .ref g32, .ref g33])), (g31, .inl (T 0, 4, .inl fq)), (g32, .inl (T 0, 4, .inl fm)), (g33, .inl (T 1, 160, .inr (.inl fn)))] H locs := V _ [] rfl rfl rfl (by decide +kernel) rfl
    show W p l e _ s m args below meth c H locs _ _ _ (F0 m 14 ls [.int (nI 1)])
    obtain ⟨jr, hjr1, hjr2, ejr⟩ := g_rng (by decide) (by decide) f_1 f_2
    rw [ejr] at hl
    obtain ⟨mz, hmz, emz⟩ := h_rm jr (by omega)
    refine lv_if_ne (tgt := 21) hx hb dX8_write_14 (by decide) (fun _ => ?_) (fun c => absurd (show (nI 1) = 0 from c) (by decide +kernel))
    refine lv_aload_n hx hb dX8_write_21 rfl (lv_at hl 0 rfl) ?_
    refine g_get hC V (ci := 8) uwX8 0 rfl rfl 31 (by decide) w_943 rfl rfl dX8_write_22 ?_
    refine lv_iload_n hx hb dX8_write_25 rfl (lv_at hl 1 rfl) ?_
    refine g_iald hC V 1 rfl (vp_in_nI (by omega) (by omega)) (v := (fq jr)) (congrArg _ (nI_clamp (by omega))) dX8_write_26 ?_
    refine lv_iconst (v := (-1)) hx hb dX8_write_27 (by decide +kernel) ?_
    refine lv_icmp_ne (tgt := 35) hx hb dX8_write_28 (by decide) (fun c_4 => ?_) (fun c_4 => ?_)
    · skip
      have hq1 := c_4
      obtain ⟨so, hso, eso⟩ := (h_rs jr (by omega)).resolve_left c_4
      refine lv_iload_n hx hb dX8_write_35 rfl (lv_at hl 2 rfl) ?_
      refine lv_i2l (v := i.toInt64) hx hb dX8_write_36 rfl ?_
      refine lv_lconst (v := (nI 0).toInt64) hx hb dX8_write_37 (by decide +kernel) ?_
      refine lv_aload_n hx hb dX8_write_38 rfl (lv_at hl 0 rfl) ?_
      refine g_get hC V (ci := 8) uwX8 0 rfl rfl 32 (by decide) w_944 rfl rfl dX8_write_39 ?_
      refine lv_iload_n hx hb dX8_write_42 rfl (lv_at hl 1 rfl) ?_
      refine g_iald hC V 2 rfl (vp_in_nI (by omega) (by omega)) (v := (nI mz)) (by rw [nI_clamp (by omega)]; exact emz) dX8_write_43 ?_
      refine lv_iconst (v := (nI 1)) hx hb dX8_write_44 (by decide +kernel) ?_
      refine lv_isub hx hb dX8_write_45 ?_
      refine lv_i2l (v := ((nI mz) - (nI 1)).toInt64) hx hb dX8_write_46 rfl ?_
      refine g_callSU (nA := 3) hC V hl.1 (m_within l D T i (nI 0) ((nI mz) - (nI 1))) w_1023 w_1024 w_9 w_1025 (by decide +kernel) rfl ⟨(Nat.le_of_ble_eq_true rfl), (Nat.le_of_ble_eq_true rfl)⟩ [] rfl rfl (Nat.le_of_ble_eq_true rfl) dX8_write_47 ⟨(Nat.le_of_ble_eq_true rfl), (Nat.le_of_ble_eq_true rfl)⟩ rfl (fun r w1 H locs hQ V => ?_)
      rcases hQ with ⟨rfl, rfl, f_5, f_6⟩ | ⟨rfl, rfl, f_7⟩
      · have V : gW D T A s [(o, .inr (8, [.int (nI 0), .ref g1, .ref g2, .ref g3, .ref g4, .int (nI tp), .int w6, .int w7, .int w8, .int w9, .int w10, .int w11, .int w12, .int w13, .int w14, .ref g15, .int w16, .ref g17, .int w18, .int w19, .ref g20, .int w21, .ref g22, .ref g23, .ref g24, .int w25, .int w26, .int w27, .ref g28, .ref g29, .int w30, .ref g31, .ref g32, .ref g33])), (g31, .inl (T 0, 4, .inl fq)), (g32, .inl (T 0, 4, .inl fm)), (g33, .inl (T 1, 160, .inr (.inl fn)))] H locs := V _ [] rfl rfl rfl (by decide +kernel) rfl
        show W p l e _ s m args below meth c H locs _ _ _ (F0 m 50 ls [.int (nI 1)])
        obtain ⟨ji, hji, eji⟩ := pred_bd40 (by omega) f_5 f_6
        rw [eji] at hl
        refine lv_if_ne (tgt := 57) hx hb dX8_write_50 (by decide) (fun _ => ?_) (fun c => absurd (show (nI 1) = 0 from c) (by decide +kernel))
        refine lv_aload_n hx hb dX8_write_57 rfl (lv_at hl 0 rfl) ?_
        refine g_get hC V (ci := 8) uwX8 0 rfl rfl 33 (by decide) w_945 rfl rfl dX8_write_58 ?_
        refine lv_bipush (v := (nI 40)) hx hb dX8_write_61 (by decide +kernel) ?_
        refine lv_iload_n hx hb dX8_write_63 rfl (lv_at hl 1 rfl) ?_
        refine lv_imul hx hb dX8_write_64 ?_
        refine g_vi (y := (nI (40 * jr))) (pk_mul _ _) ?_
        refine lv_iload_n hx hb dX8_write_65 rfl (lv_at hl 2 rfl) ?_
        refine lv_iadd hx hb dX8_write_66 ?_
        refine g_vi (y := (nI ((40 * jr) + ji))) (nI_add _ _) ?_
        refine lv_lload_n hx hb dX8_write_67 rfl (lv_at hl 3 rfl) ?_
        refine lv_aload_n hx hb dX8_write_68 rfl (lv_at hl 0 rfl) ?_
        refine g_get hC V (ci := 8) uwX8 0 rfl rfl 31 (by decide) w_943 rfl rfl dX8_write_69 ?_
        refine lv_iload_n hx hb dX8_write_72 rfl (lv_at hl 1 rfl) ?_
        refine g_iald hC V 1 rfl (vp_in_nI (by omega) (by omega)) (v := (fq jr)) (congrArg _ (nI_clamp (by omega))) dX8_write_73 ?_
        refine g_callSU (nA := 2) hC V hl.1 (m_cut_f l D T vv (fq jr) ⟨so, hso, eso⟩) w_1384 w_1385 w_9 w_1386 (by decide +kernel) rfl ⟨(Nat.le_of_ble_eq_true rfl), (Nat.le_of_ble_eq_true rfl)⟩ [] rfl rfl (Nat.le_of_ble_eq_true rfl) dX8_write_74 ⟨(Nat.le_of_ble_eq_true rfl), (Nat.le_of_ble_eq_true rfl)⟩ rfl (fun r w1 H locs hQ V => ?_)
        obtain ⟨z_8, rfl, rfl, f_9⟩ := hQ
        have V : gW D T A s [(o, .inr (8, [.int (nI 0), .ref g1, .ref g2, .ref g3, .ref g4, .int (nI tp), .int w6, .int w7, .int w8, .int w9, .int w10, .int w11, .int w12, .int w13, .int w14, .ref g15, .int w16, .ref g17, .int w18, .int w19, .ref g20, .int w21, .ref g22, .ref g23, .ref g24, .int w25, .int w26, .int w27, .ref g28, .ref g29, .int w30, .ref g31, .ref g32, .ref g33])), (g31, .inl (T 0, 4, .inl fq)), (g32, .inl (T 0, 4, .inl fm)), (g33, .inl (T 1, 160, .inr (.inl fn)))] H locs := V _ [] rfl rfl rfl (by decide +kernel) rfl
        show W p l e _ s m args below meth c H locs _ _ _ (F0 m 77 ls [.long z_8, .int (nI ((40 * jr) + ji)), .ref g33])
        have ecz : z_8 = cutv so vv := by rw [f_9, eso, nI_clamp (by omega)]
        refine g_last hC V 3 rfl (vp_in_nI (by omega) (by omega)) (f' := (vp_updL fn ((40 * jr) + ji) z_8)) (by rw [nI_clamp (by omega)]) (ws' := [(o, .inr (8, [.int (nI 0), .ref g1, .ref g2, .ref g3, .ref g4, .int (nI tp), .int w6, .int w7, .int w8, .int w9, .int w10, .int w11, .int w12, .int w13, .int w14, .ref g15, .int w16, .ref g17, .int w18, .int w19, .ref g20, .int w21, .ref g22, .ref g23, .ref g24, .int w25, .int w26, .int w27, .ref g28, .ref g29, .int w30, .ref g31, .ref g32, .ref g33])), (g31, .inl (T 0, 4, .inl fq)), (g32, .inl (T 0, 4, .inl fm)), (g33, .inl (T 1, 160, .inr (.inl (vp_updL fn ((40 * jr) + ji) z_8))))]) rfl dX8_write_77 (fun H locs V => ?_)
        refine lv_aload_n hx hb dX8_write_78 rfl (lv_at hl 0 rfl) ?_
        refine g_get hC V (ci := 8) uwX8 0 rfl rfl 33 (by decide) w_945 rfl rfl dX8_write_79 ?_
        refine lv_bipush (v := (nI 40)) hx hb dX8_write_82 (by decide +kernel) ?_
        refine lv_iload_n hx hb dX8_write_84 rfl (lv_at hl 1 rfl) ?_
        refine lv_imul hx hb dX8_write_85 ?_
        refine g_vi (y := (nI (40 * jr))) (pk_mul _ _) ?_
        refine lv_iload_n hx hb dX8_write_86 rfl (lv_at hl 2 rfl) ?_
        refine lv_iadd hx hb dX8_write_87 ?_
        refine g_vi (y := (nI ((40 * jr) + ji))) (nI_add _ _) ?_
        refine g_lald hC V 3 rfl (vp_in_nI (by omega) (by omega)) (v := ((vp_updL fn ((40 * jr) + ji) z_8) ((40 * jr) + ji))) (congrArg _ (nI_clamp (by omega))) dX8_write_88 ?_
        exact g_lret (Qr := (q_m_write_f T o row i vv w0 g1 g2 g3 g4 tp w6 w7 w8 w9 w10 w11 w12 w13 w14 g15 w16 g17 w18 w19 g20 w21 g22 g23 g24 w25 w26 w27 g28 g29 w30 g31 g32 g33 fq fm fn)) hC V ⟨(Nat.le_of_ble_eq_true rfl), (Nat.le_of_ble_eq_true rfl)⟩ ⟨((vp_updL fn ((40 * jr) + ji) z_8) ((40 * jr) + ji)), (vp_updL fn ((40 * jr) + ji) z_8), rfl, rfl, (by rw [upL_same, ecz]; exact (wr_y (fn := fn) (v := vv) ejr (by omega) eso (by omega) emz f_5 f_6 eji (by omega)).1), (by rw [ecz]; exact (wr_y (fn := fn) (v := vv) ejr (by omega) eso (by omega) emz f_5 f_6 eji (by omega)).2)⟩ dX8_write_89
      · have V : gW D T A s [(o, .inr (8, [.int (nI 0), .ref g1, .ref g2, .ref g3, .ref g4, .int (nI tp), .int w6, .int w7, .int w8, .int w9, .int w10, .int w11, .int w12, .int w13, .int w14, .ref g15, .int w16, .ref g17, .int w18, .int w19, .ref g20, .int w21, .ref g22, .ref g23, .ref g24, .int w25, .int w26, .int w27, .ref g28, .ref g29, .int w30, .ref g31, .ref g32, .ref g33])), (g31, .inl (T 0, 4, .inl fq)), (g32, .inl (T 0, 4, .inl fm)), (g33, .inl (T 1, 160, .inr (.inl fn)))] H locs := V _ [] rfl rfl rfl (by decide +kernel) rfl
        show W p l e _ s m args below meth c H locs _ _ _ (F0 m 50 ls [.int (nI 0)])
        refine lv_if_ne (tgt := 57) hx hb dX8_write_50 (by decide) (fun c => absurd (show (nI 0) = 0 by decide +kernel) c) (fun _ => ?_)
        refine lv_ldc2 (v := (-7)) hx hb hown (hts _ w_1383) dX8_write_53 ?_
        exact g_lret (Qr := (q_m_write_f T o row i vv w0 g1 g2 g3 g4 tp w6 w7 w8 w9 w10 w11 w12 w13 w14 g15 w16 g17 w18 w19 g20 w21 g22 g23 g24 w25 w26 w27 g28 g29 w30 g31 g32 g33 fq fm fn)) hC V ⟨(Nat.le_of_ble_eq_true rfl), (Nat.le_of_ble_eq_true rfl)⟩ ⟨(-7), fn, rfl, rfl, (wr_7 (fn := fn) (v := vv) ejr (by omega) hq1 emz f_7).1, (wr_7 (fn := fn) (v := vv) ejr (by omega) hq1 emz f_7).2⟩ dX8_write_56
    · skip
      have hq0 := c_4
      refine lv_ldc2 (v := (-6)) hx hb hown (hts _ w_1382) dX8_write_31 ?_
      exact g_lret (Qr := (q_m_write_f T o row i vv w0 g1 g2 g3 g4 tp w6 w7 w8 w9 w10 w11 w12 w13 w14 g15 w16 g17 w18 w19 g20 w21 g22 g23 g24 w25 w26 w27 g28 g29 w30 g31 g32 g33 fq fm fn)) hC V ⟨(Nat.le_of_ble_eq_true rfl), (Nat.le_of_ble_eq_true rfl)⟩ ⟨(-6), fn, rfl, rfl, (wr_6 (fn := fn) (v := vv) ejr (by omega) hq0).1, (wr_6 (fn := fn) (v := vv) ejr (by omega) hq0).2⟩ dX8_write_34
  · have V : gW D T A s [(o, .inr (8, [.int (nI 0), .ref g1, .ref g2, .ref g3, .ref g4, .int (nI tp), .int w6, .int w7, .int w8, .int w9, .int w10, .int w11, .int w12, .int w13, .int w14, .ref g15, .int w16, .ref g17, .int w18, .int w19, .ref g20, .int w21, .ref g22, .ref g23, .ref g24, .int w25, .int w26, .int w27, .ref g28, .ref g29, .int w30, .ref g31, .ref g32, .ref g33])), (g31, .inl (T 0, 4, .inl fq)), (g32, .inl (T 0, 4, .inl fm)), (g33, .inl (T 1, 160, .inr (.inl fn)))] H locs := V _ [] rfl rfl rfl (by decide +kernel) rfl
    show W p l e _ s m args below meth c H locs _ _ _ (F0 m 14 ls [.int (nI 0)])
    have r0 : (row < 0 ∨ nI 4 ≤ row) := nv_r rfl (by decide) f_3
    refine lv_if_ne (tgt := 21) hx hb dX8_write_14 (by decide) (fun c => absurd (show (nI 0) = 0 by decide +kernel) c) (fun _ => ?_)
    refine lv_ldc2 (v := (-2)) hx hb hown (hts _ w_1381) dX8_write_17 ?_
    exact g_lret (Qr := (q_m_write_f T o row i vv w0 g1 g2 g3 g4 tp w6 w7 w8 w9 w10 w11 w12 w13 w14 g15 w16 g17 w18 w19 g20 w21 g22 g23 g24 w25 w26 w27 g28 g29 w30 g31 g32 g33 fq fm fn)) hC V ⟨(Nat.le_of_ble_eq_true rfl), (Nat.le_of_ble_eq_true rfl)⟩ ⟨(-2), fn, rfl, rfl, (wr_2 (fn := fn) (v := vv) r0).1, (wr_2 (fn := fn) (v := vv) r0).2⟩ dX8_write_20
