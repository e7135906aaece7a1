theorem LwA_S {D : va_G} {T : Nat → ClassId} {A : Nat → Prop} {s : State} {ox o : Nat} {H : Heap} {locs : List Loc} (h : LwA D T A s ox o H locs) : va_S A s.heap H locs := by
  refine h _ ?_
  intro n0 s0 im iz rw t0 u0 h0 y0 nn nm nl no nu n1 n2 n3 n4 n5 n6 n7 n8 n9 n10 nf1 nf2 nf3 nf4 nf5 nf6 nf7 nf8 nf9 nf10 sn sm sl so su s1 s2 s3 s4 s5 s6 s7 s8 s9 s10 sf1 sf2 sf3 sf4 sf5 sf6 sf7 sf8 sf9 sf10 v0 w0 fz ra0 rb0 rc0 rd0 rah raz ra1 ras raf rbh rbz rb1 rbs rbf rch rcz rc1 rcs rcf rdh rdz rd1 rds rdf tf tu tl t1 te tk tr tb tx uk1 uk2 uk3 h1 qx qy ql h2 h3 qb qp qc ys y1 y2 yb yt vn vm vl vo vu v1 v2 v3 v4 v5 v6 v7 v8 v9 v10 vf1 vf2 vf3 vf4 vf5 vf6 vf7 vf8 vf9 vf10 wn wm wl wo wu w1 w2 w3 w4 w5 w6 w7 w8 w9 w10 wf1 wf2 wf3 wf4 wf5 wf6 wf7 wf8 wf9 wf10 kw0 g1 g2 g3 g4 tp kw6 kw7 kw8 kw9 kw10 kw11 kw12 kw13 kw14 g15 kw16 g17 kw18 kw19 g20 kw21 g22 g23 g24 kw25 kw26 kw27 g28 g29 kw30 g31 g32 g33 fa fi_ ft ff fh fk fr fb fs fc fo fp fq fm fn nI1 nI2 h_n h_t h_nv h_tv h_nw h_tw h_zra h_zrb h_zrc h_zrd h_sra h_srb h_src h_srd h_f h_a h_i1 h_i2 h_rs h_rm h_tp h_tf h_tx h_fu h_fl h_z0 h_z1 h_sr h_mn h_m0 h_m1 h_r0 h_r1 h_r2 h_r3 V
  exact V.2.2.2.1

theorem LwB_S {D : va_G} {T : Nat → ClassId} {A : Nat → Prop} {s : State} {ox o : Nat} {H : Heap} {locs : List Loc} (h : LwB D T A s ox o H locs) : va_S A s.heap H locs := by
  refine h _ ?_
  intro n0 s0 im iz rw t0 u0 h0 y0 e0 nn nm nl no nu n1 n2 n3 n4 n5 n6 n7 n8 n9 n10 nf1 nf2 nf3 nf4 nf5 nf6 nf7 nf8 nf9 nf10 sn sm sl so su s1 s2 s3 s4 s5 s6 s7 s8 s9 s10 sf1 sf2 sf3 sf4 sf5 sf6 sf7 sf8 sf9 sf10 v0 w0 fz ra0 rb0 rc0 rd0 rah raz ra1 ras raf rbh rbz rb1 rbs rbf rch rcz rc1 rcs rcf rdh rdz rd1 rds rdf tf tu tl t1 te tk tr tb tx uk1 uk2 uk3 h1 qx qy ql h2 h3 qb qp qc ys y1 y2 yb yt vn vm vl vo vu v1 v2 v3 v4 v5 v6 v7 v8 v9 v10 vf1 vf2 vf3 vf4 vf5 vf6 vf7 vf8 vf9 vf10 wn wm wl wo wu w1 w2 w3 w4 w5 w6 w7 w8 w9 w10 wf1 wf2 wf3 wf4 wf5 wf6 wf7 wf8 wf9 wf10 kw0 g1 g2 g3 g4 tp kw6 kw7 kw8 kw9 kw10 kw11 kw12 kw13 kw14 g15 kw16 g17 kw18 kw19 g20 kw21 g22 g23 g24 kw25 kw26 kw27 g28 g29 kw30 g31 g32 g33 fa fi_ ft ff fh fk fr fb fs fc fo fp fq fm fn e1 e2 em e3 e4 e5 e6 ea eb ec ed ee ef nI1 nI2 h_n h_t h_nv h_tv h_nw h_tw h_zra h_zrb h_zrc h_zrd h_sra h_srb h_src h_srd h_f h_a h_i1 h_i2 h_rs h_rm h_tp h_tf h_tx h_fu h_fl h_z0 h_z1 h_sr h_mn h_m0 h_m1 h_r0 h_r1 h_r2 h_r3 V
  exact V.2.2.2.1

theorem g_out42 {x : Int32} (h : ∀ j : Nat, j < 42 → ¬ x = nI j) : x.toInt < 0 ∨ 41 < x.toInt := by
  by_cases h0 : x < 0
  · exact Or.inl (by have := Int32.lt_iff_toInt_lt.mp h0; have z : (0 : Int32).toInt = 0 := by decide
                     omega)
  · obtain ⟨j, hj, rfl⟩ := nI_of h0
    by_cases h1 : j < 42
    · exact absurd rfl (h j h1)
    · refine Or.inr ?_
      rw [nI_toInt hj]
      omega
set_option maxHeartbeats 4000000 in
set_option maxRecDepth 100000 in
theorem lw_fin {p : Program} {e : Env} {s : State} {m : MethodId} {below : List Frame} {meth : Method} {c : Code} (l : Launch) {b : Nat} (hx : p.tables.exec = Jvm.exec) (hb : c.code = cL_law) (hr : meth.sig.returnType = ret) (hlocks : meth.locks = false) {H : Heap} {locs : List Loc} {ls : Array Slot} {k n : Nat} {A : Nat → Prop} (hAs : ∀ q, A q → s.heap.size ≤ q) (hk : k ≤ 600000) (hn : n ≤ 7302250) (hS : va_S A s.heap H locs) : W p l e room_1 s m #[Value.ref b] below meth c H locs k n (lw_Z below #[Value.ref b] s) (F0 m 1484 ls []) := by
  refine lv_iconst (v := nI 1) hx hb dL_law_1484 (by decide +kernel) ?_
  refine g_vi (y := 1) (by decide +kernel) ?_
  exact va_forget (fun q hq => hAs _ (hS.2.2 q hq)) (W.widen hk hn (lw_ret hx hb hr hlocks dL_law_1485))

set_option maxHeartbeats 4000000 in
set_option maxRecDepth 100000 in
theorem lw_swA {p : Program} {e : Env} {s : State} {m : MethodId} {args : Array Value} {below : List Frame} {meth : Method} {c : Code} {Q : State → Prop} (l : Launch) {b L t cz sz ox o : Nat} {xs : Nat → Int32} {D : va_G} {T : Nat → ClassId} {A : Nat → Prop} (hC : cX p s m args meth c RL cL_law 4 (some .boolean)) (hX : va_X b L xs s s.heap) (hbl : b < s.heap.size) (hbA : ¬ A b) (hL3 : L ≤ 3072) (hin : 6 * t + 6 ≤ L) (hcz : cz + 7 ≤ 600000) (hsz : sz + 11233 ≤ 7302250) (hE : ∀ (H : Heap) (locs : List Loc) (ls : Array Slot), (LwA D T A s ox o H locs ∨ LwB D T A s ox o H locs) → lv_has ls 4 [(3, .int (nI (6 * t))), (2, .ref o), (1, .ref ox), (0, .ref b)] → W p l e room_1 s m args below meth c H locs (cz + 7) (sz + 11233) Q (F0 m 1478 ls [])) {H : Heap} {locs : List Loc} {ls : Array Slot} {n0 : Nat} {s0 : Nat} {im : Nat} {iz : Nat} {rw : Nat} {t0 : Nat} {u0 : Nat} {h0 : Nat} {y0 : Nat} {nn : Nat} {nm : Int32} {nl : Int32} {no : Int32} {nu : Int32} {n1 : Nat} {n2 : Nat} {n3 : Nat} {n4 : Nat} {n5 : Nat} {n6 : Nat} {n7 : Nat} {n8 : Nat} {n9 : Nat} {n10 : Nat} {nf1 : Nat → Int32} {nf2 : Nat → Int32} {nf3 : Nat → Int32} {nf4 : Nat → Int32} {nf5 : Nat → Int32} {nf6 : Nat → Int32} {nf7 : Nat → Int32} {nf8 : Nat → Int32} {nf9 : Nat → Int32} {nf10 : Nat → Int32} {sn : Int32} {sm : Int32} {sl : Int32} {so : Int32} {su : Int32} {s1 : Nat} {s2 : Nat} {s3 : Nat} {s4 : Nat} {s5 : Nat} {s6 : Nat} {s7 : Nat} {s8 : Nat} {s9 : Nat} {s10 : Nat} {sf1 : Nat → Int32} {sf2 : Nat → Int32} {sf3 : Nat → Int32} {sf4 : Nat → Int32} {sf5 : Nat → Int32} {sf6 : Nat → Int32} {sf7 : Nat → Int32} {sf8 : Nat → Int32} {sf9 : Nat → Int32} {sf10 : Nat → Int32} {v0 : Nat} {w0 : Nat} {fz : Nat → Int32} {ra0 : Nat} {rb0 : Nat} {rc0 : Nat} {rd0 : Nat} {rah : Int32} {raz : Nat} {ra1 : Nat} {ras : Nat} {raf : Nat → Int64} {rbh : Int32} {rbz : Nat} {rb1 : Nat} {rbs : Nat} {rbf : Nat → Int64} {rch : Int32} {rcz : Nat} {rc1 : Nat} {rcs : Nat} {rcf : Nat → Int64} {rdh : Int32} {rdz : Nat} {rd1 : Nat} {rds : Nat} {rdf : Nat → Int64} {tf : Nat} {tu : Int32} {tl : Int32} {t1 : Nat} {te : Int32} {tk : Int32} {tr : Int32} {tb : Int32} {tx : Nat → Int32} {uk1 : Int32} {uk2 : Int32} {uk3 : Int32} {h1 : Nat} {qx : Int32} {qy : Int32} {ql : Int32} {h2 : Nat} {h3 : Nat} {qb : Nat → Int32} {qp : Nat → Int32} {qc : Nat → Int32} {ys : Int32} {y1 : Nat} {y2 : Nat} {yb : Nat → Int32} {yt : Nat → Int32} {vn : Nat} {vm : Int32} {vl : Int32} {vo : Int32} {vu : Int32} {v1 : Nat} {v2 : Nat} {v3 : Nat} {v4 : Nat} {v5 : Nat} {v6 : Nat} {v7 : Nat} {v8 : Nat} {v9 : Nat} {v10 : Nat} {vf1 : Nat → Int32} {vf2 : Nat → Int32} {vf3 : Nat → Int32} {vf4 : Nat → Int32} {vf5 : Nat → Int32} {vf6 : Nat → Int32} {vf7 : Nat → Int32} {vf8 : Nat → Int32} {vf9 : Nat → Int32} {vf10 : Nat → Int32} {wn : Nat} {wm : Int32} {wl : Int32} {wo : Int32} {wu : Int32} {w1 : Nat} {w2 : Nat} {w3 : Nat} {w4 : Nat} {w5 : Nat} {w6 : Nat} {w7 : Nat} {w8 : Nat} {w9 : Nat} {w10 : Nat} {wf1 : Nat → Int32} {wf2 : Nat → Int32} {wf3 : Nat → Int32} {wf4 : Nat → Int32} {wf5 : Nat → Int32} {wf6 : Nat → Int32} {wf7 : Nat → Int32} {wf8 : Nat → Int32} {wf9 : Nat → Int32} {wf10 : Nat → Int32} {kw0 : Int32} {g1 : Nat} {g2 : Nat} {g3 : Nat} {g4 : Nat} {tp : Nat} {kw6 : Int32} {kw7 : Int32} {kw8 : Int32} {kw9 : Int32} {kw10 : Int32} {kw11 : Int32} {kw12 : Int32} {kw13 : Int32} {kw14 : Int32} {g15 : Nat} {kw16 : Int32} {g17 : Nat} {kw18 : Int32} {kw19 : Int32} {g20 : Nat} {kw21 : Int32} {g22 : Nat} {g23 : Nat} {g24 : Nat} {kw25 : Int32} {kw26 : Int32} {kw27 : Int32} {g28 : Nat} {g29 : Nat} {kw30 : Int32} {g31 : Nat} {g32 : Nat} {g33 : Nat} {fa : Nat → Int32} {fi_ : Nat → Int32} {ft : Nat → Int32} {ff : Nat → Int32} {fh : Nat → Int32} {fk : Nat → Int32} {fr : Nat → Int64} {fb : Nat → Int64} {fs : Nat → Int64} {fc : Nat → Int32} {fo : Nat → Int32} {fp : Nat → Int32} {fq : Nat → Int32} {fm : Nat → Int32} {fn : Nat → Int64} {nI1 : Nat} {nI2 : Nat} (h_n : nn ≤ 10) (h_t : ∀ i, i < nn → bd (nf9 i) nn) (h_nv : vn ≤ 10) (h_tv : ∀ i, i < vn → bd (vf9 i) vn) (h_nw : wn ≤ 10) (h_tw : ∀ i, i < wn → bd (wf9 i) wn) (h_zra : raz ≤ 40) (h_zrb : rbz ≤ 40) (h_zrc : rcz ≤ 40) (h_zrd : rdz ≤ 40) (h_sra : ras ≤ 3) (h_srb : rbs ≤ 3) (h_src : rcs ≤ 3) (h_srd : rds ≤ 3) (h_f : tf ≤ 900) (h_a : MI nn fa) (h_i1 : MI nI1 (fun j => fa (94 + j))) (h_i2 : MI nI2 (fun j => fa (188 + j))) (h_rs : ∀ i, i < 4 → (fq i = -1 ∨ bd (fq i) 4)) (h_rm : ∀ i, i < 4 → bd (fm i) 41) (h_tp : tp ≤ 900) (h_tf : tf = tp) (h_tx : TXT tf tx ft) (h_fu : tu = kw13) (h_fl : tl = kw14) (h_z0 : fz 0 = fi_ 0) (h_z1 : fz 1 = fi_ 1) (h_sr : SR nn nm nl no nf1 nf2 nf3 nf4 nf5 nf6 nf7 nf9 fa) (h_mn : bd (fa 1) 10000) (h_m0 : IM (fz 0) vn vm vl vo vf1 vf2 vf3 vf4 vf5 vf6 vf7 vf9 (fun j => fa (94 + j))) (h_m1 : IM (fz 1) wn wm wl wo wf1 wf2 wf3 wf4 wf5 wf6 wf7 wf9 (fun j => fa (188 + j))) (h_r0 : RW 0 rah raz ras raf fq fm fn) (h_r1 : RW 1 rbh rbz rbs rbf fq fm fn) (h_r2 : RW 2 rch rcz rcs rcf fq fm fn) (h_r3 : RW 3 rdh rdz rds rdf fq fm fn) (V : gW D T A s [(ox, .inr (7, [.ref n0, .ref s0, .ref im, .ref iz, .ref rw, .ref t0, .ref u0, .ref h0, .ref y0, .null])), (n0, .inr (5, [.int (nI nn), .int nm, .int nl, .int no, .int nu, .ref n1, .ref n2, .ref n3, .ref n4, .ref n5, .ref n6, .ref n7, .ref n8, .ref n9, .ref n10])), (n1, .inl (T 0, 10, .inl nf1)), (n2, .inl (T 0, 10, .inl nf2)), (n3, .inl (T 0, 10, .inl nf3)), (n4, .inl (T 0, 10, .inl nf4)), (n5, .inl (T 0, 10, .inl nf5)), (n6, .inl (T 0, 10, .inl nf6)), (n7, .inl (T 0, 10, .inl nf7)), (n8, .inl (T 0, 10, .inl nf8)), (n9, .inl (T 0, 10, .inl nf9)), (n10, .inl (T 0, 10, .inl nf10)), (s0, .inr (5, [.int sn, .int sm, .int sl, .int so, .int su, .ref s1, .ref s2, .ref s3, .ref s4, .ref s5, .ref s6, .ref s7, .ref s8, .ref s9, .ref s10])), (s1, .inl (T 0, 10, .inl sf1)), (s2, .inl (T 0, 10, .inl sf2)), (s3, .inl (T 0, 10, .inl sf3)), (s4, .inl (T 0, 10, .inl sf4)), (s5, .inl (T 0, 10, .inl sf5)), (s6, .inl (T 0, 10, .inl sf6)), (s7, .inl (T 0, 10, .inl sf7)), (s8, .inl (T 0, 10, .inl sf8)), (s9, .inl (T 0, 10, .inl sf9)), (s10, .inl (T 0, 10, .inl sf10)), (im, .inl (T 4, 2, .inr (.inr (.inr (.inr (va_up (va_up (fun _ => none) 0 (some v0)) 1 (some w0))))))), (iz, .inl (T 2, 2, .inl fz)), (rw, .inl (T 5, 4, .inr (.inr (.inr (.inr (va_up (va_up (va_up (va_up (fun _ => none) 0 (some ra0)) 1 (some rb0)) 2 (some rc0)) 3 (some rd0))))))), (ra0, .inr (1, [.int rah, .int (nI raz), .ref ra1, .int (nI ras)])), (ra1, .inl (T 1, 40, .inr (.inl raf))), (rb0, .inr (1, [.int rbh, .int (nI rbz), .ref rb1, .int (nI rbs)])), (rb1, .inl (T 1, 40, .inr (.inl rbf))), (rc0, .inr (1, [.int rch, .int (nI rcz), .ref rc1, .int (nI rcs)])), (rc1, .inl (T 1, 40, .inr (.inl rcf))), (rd0, .inr (1, [.int rdh, .int (nI rdz), .ref rd1, .int (nI rds)])), (rd1, .inl (T 1, 40, .inr (.inl rdf))), (t0, .inr (2, [.int (nI tf), .int tu, .int tl, .ref t1, .int te, .int tk, .int tr, .int tb])), (t1, .inl (T 3, 900, .inl tx)), (u0, .inr (6, [.int uk1, .int uk2, .int uk3])), (h0, .inr (3, [.ref h1, .int qx, .int qy, .int ql, .ref h2, .ref h3])), (h1, .inl (T 0, 10, .inl qb)), (h2, .inl (T 0, 10, .inl qp)), (h3, .inl (T 0, 12, .inl qc)), (y0, .inr (0, [.int ys, .ref y1, .ref y2])), (y1, .inl (T 0, 7, .inl yb)), (y2, .inl (T 0, 7, .inl yt)), (v0, .inr (5, [.int (nI vn), .int vm, .int vl, .int vo, .int vu, .ref v1, .ref v2, .ref v3, .ref v4, .ref v5, .ref v6, .ref v7, .ref v8, .ref v9, .ref v10])), (v1, .inl (T 0, 10, .inl vf1)), (v2, .inl (T 0, 10, .inl vf2)), (v3, .inl (T 0, 10, .inl vf3)), (v4, .inl (T 0, 10, .inl vf4)), (v5, .inl (T 0, 10, .inl vf5)), (v6, .inl (T 0, 10, .inl vf6)), (v7, .inl (T 0, 10, .inl vf7)), (v8, .inl (T 0, 10, .inl vf8)), (v9, .inl (T 0, 10, .inl vf9)), (v10, .inl (T 0, 10, .inl vf10)), (w0, .inr (5, [.int (nI wn), .int wm, .int wl, .int wo, .int wu, .ref w1, .ref w2, .ref w3, .ref w4, .ref w5, .ref w6, .ref w7, .ref w8, .ref w9, .ref w10])), (w1, .inl (T 0, 10, .inl wf1)), (w2, .inl (T 0, 10, .inl wf2)), (w3, .inl (T 0, 10, .inl wf3)), (w4, .inl (T 0, 10, .inl wf4)), (w5, .inl (T 0, 10, .inl wf5)), (w6, .inl (T 0, 10, .inl wf6)), (w7, .inl (T 0, 10, .inl wf7)), (w8, .inl (T 0, 10, .inl wf8)), (w9, .inl (T 0, 10, .inl wf9)), (w10, .inl (T 0, 10, .inl wf10)), (o, .inr (8, [.int kw0, .ref g1, .ref g2, .ref g3, .ref g4, .int (nI tp), .int kw6, .int kw7, .int kw8, .int kw9, .int kw10, .int kw11, .int kw12, .int kw13, .int kw14, .ref g15, .int kw16, .ref g17, .int kw18, .int kw19, .ref g20, .int kw21, .ref g22, .ref g23, .ref g24, .int kw25, .int kw26, .int kw27, .ref g28, .ref g29, .int kw30, .ref g31, .ref g32, .ref g33])), (g1, .inl (T 0, 282, .inl fa)), (g2, .inl (T 2, 2, .inl fi_)), (g3, .inl (T 0, 900, .inl ft)), (g4, .inl (T 0, 94, .inl ff)), (g15, .inl (T 0, 10, .inl fh)), (g17, .inl (T 0, 94, .inl fk)), (g20, .inl (T 1, 10, .inr (.inl fr))), (g22, .inl (T 1, 10, .inr (.inl fb))), (g23, .inl (T 1, 3001, .inr (.inl fs))), (g24, .inl (T 0, 8192, .inl fc)), (g28, .inl (T 0, 7, .inl fo)), (g29, .inl (T 0, 7, .inl fp)), (g31, .inl (T 0, 4, .inl fq)), (g32, .inl (T 0, 4, .inl fm)), (g33, .inl (T 1, 160, .inr (.inl fn)))] H locs) (hl : lv_has ls 4 [(3, .int (nI (6 * t))), (2, .ref o), (1, .ref ox), (0, .ref b)]) {x : Int32} : W p l e room_1 s m args below meth c H locs cz sz Q (F0 m 33 ls [.int x]) := by
  obtain ⟨hx, hb, hr, hml, hown, hts, hlocks⟩ := id hC
  by_cases c0 : x = nI 0
  · refine lv_tableIn (tgt := 216) (off := 183) hx hb dL_law_33 (by rw [c0]; decide +kernel) (by rw [c0]; decide +kernel) (by rw [c0]; decide +kernel) (by decide) ?_
    exact lkA_0 l hC hX hbl hbA hL3 hin hcz hsz hE h_n h_t h_nv h_tv h_nw h_tw h_zra h_zrb h_zrc h_zrd h_sra h_srb h_src h_srd h_f h_a h_i1 h_i2 h_rs h_rm h_tp h_tf h_tx h_fu h_fl h_z0 h_z1 h_sr h_mn h_m0 h_m1 h_r0 h_r1 h_r2 h_r3 V hl
  by_cases c1 : x = nI 1
  · refine lv_tableIn (tgt := 279) (off := 246) hx hb dL_law_33 (by rw [c1]; decide +kernel) (by rw [c1]; decide +kernel) (by rw [c1]; decide +kernel) (by decide) ?_
    exact lkA_1 l hC hX hbl hbA hL3 hin hcz hsz hE h_n h_t h_nv h_tv h_nw h_tw h_zra h_zrb h_zrc h_zrd h_sra h_srb h_src h_srd h_f h_a h_i1 h_i2 h_rs h_rm h_tp h_tf h_tx h_fu h_fl h_z0 h_z1 h_sr h_mn h_m0 h_m1 h_r0 h_r1 h_r2 h_r3 V hl
  by_cases c2 : x = nI 2
  · refine lv_tableIn (tgt := 302) (off := 269) hx hb dL_law_33 (by rw [c2]; decide +kernel) (by rw [c2]; decide +kernel) (by rw [c2]; decide +kernel) (by decide) ?_
    exact lkA_2 l hC hX hbl hbA hL3 hin hcz hsz hE h_n h_t h_nv h_tv h_nw h_tw h_zra h_zrb h_zrc h_zrd h_sra h_srb h_src h_srd h_f h_a h_i1 h_i2 h_rs h_rm h_tp h_tf h_tx h_fu h_fl h_z0 h_z1 h_sr h_mn h_m0 h_m1 h_r0 h_r1 h_r2 h_r3 V hl
  by_cases c3 : x = nI 3
  · refine lv_tableIn (tgt := 325) (off := 292) hx hb dL_law_33 (by rw [c3]; decide +kernel) (by rw [c3]; decide +kernel) (by rw [c3]; decide +kernel) (by decide) ?_
    exact lkA_3 l hC hX hbl hbA hL3 hin hcz hsz hE h_n h_t h_nv h_tv h_nw h_tw h_zra h_zrb h_zrc h_zrd h_sra h_srb h_src h_srd h_f h_a h_i1 h_i2 h_rs h_rm h_tp h_tf h_tx h_fu h_fl h_z0 h_z1 h_sr h_mn h_m0 h_m1 h_r0 h_r1 h_r2 h_r3 V hl
  by_cases c4 : x = nI 4
  · refine lv_tableIn (tgt := 358) (off := 325) hx hb dL_law_33 (by rw [c4]; decide +kernel) (by rw [c4]; decide +kernel) (by rw [c4]; decide +kernel) (by decide) ?_
    exact lkA_4 l hC hX hbl hbA hL3 hin hcz hsz hE h_n h_t h_nv h_tv h_nw h_tw h_zra h_zrb h_zrc h_zrd h_sra h_srb h_src h_srd h_f h_a h_i1 h_i2 h_rs h_rm h_tp h_tf h_tx h_fu h_fl h_z0 h_z1 h_sr h_mn h_m0 h_m1 h_r0 h_r1 h_r2 h_r3 V hl
  by_cases c5 : x = nI 5
  · refine lv_tableIn (tgt := 381) (off := 348) hx hb dL_law_33 (by rw [c5]; decide +kernel) (by rw [c5]; decide +kernel) (by rw [c5]; decide +kernel) (by decide) ?_
    exact lkA_5 l hC hX hbl hbA hL3 hin hcz hsz hE h_n h_t h_nv h_tv h_nw h_tw h_zra h_zrb h_zrc h_zrd h_sra h_srb h_src h_srd h_f h_a h_i1 h_i2 h_rs h_rm h_tp h_tf h_tx h_fu h_fl h_z0 h_z1 h_sr h_mn h_m0 h_m1 h_r0 h_r1 h_r2 h_r3 V hl
  by_cases c6 : x = nI 6
  · refine lv_tableIn (tgt := 414) (off := 381) hx hb dL_law_33 (by rw [c6]; decide +kernel) (by rw [c6]; decide +kernel) (by rw [c6]; decide +kernel) (by decide) ?_
    exact lkA_6 l hC hX hbl hbA hL3 hin hcz hsz hE h_n h_t h_nv h_tv h_nw h_tw h_zra h_zrb h_zrc h_zrd h_sra h_srb h_src h_srd h_f h_a h_i1 h_i2 h_rs h_rm h_tp h_tf h_tx h_fu h_fl h_z0 h_z1 h_sr h_mn h_m0 h_m1 h_r0 h_r1 h_r2 h_r3 V hl
  by_cases c7 : x = nI 7
  · refine lv_tableIn (tgt := 447) (off := 414) hx hb dL_law_33 (by rw [c7]; decide +kernel) (by rw [c7]; decide +kernel) (by rw [c7]; decide +kernel) (by decide) ?_
    exact lkA_7 l hC hX hbl hbA hL3 hin hcz hsz hE h_n h_t h_nv h_tv h_nw h_tw h_zra h_zrb h_zrc h_zrd h_sra h_srb h_src h_srd h_f h_a h_i1 h_i2 h_rs h_rm h_tp h_tf h_tx h_fu h_fl h_z0 h_z1 h_sr h_mn h_m0 h_m1 h_r0 h_r1 h_r2 h_r3 V hl
  by_cases c8 : x = nI 8
  · refine lv_tableIn (tgt := 480) (off := 447) hx hb dL_law_33 (by rw [c8]; decide +kernel) (by rw [c8]; decide +kernel) (by rw [c8]; decide +kernel) (by decide) ?_
    exact lkA_8 l hC hX hbl hbA hL3 hin hcz hsz hE h_n h_t h_nv h_tv h_nw h_tw h_zra h_zrb h_zrc h_zrd h_sra h_srb h_src h_srd h_f h_a h_i1 h_i2 h_rs h_rm h_tp h_tf h_tx h_fu h_fl h_z0 h_z1 h_sr h_mn h_m0 h_m1 h_r0 h_r1 h_r2 h_r3 V hl
  by_cases c9 : x = nI 9
  · refine lv_tableIn (tgt := 513) (off := 480) hx hb dL_law_33 (by rw [c9]; decide +kernel) (by rw [c9]; decide +kernel) (by rw [c9]; decide +kernel) (by decide) ?_
    exact lkA_9 l hC hX hbl hbA hL3 hin hcz hsz hE h_n h_t h_nv h_tv h_nw h_tw h_zra h_zrb h_zrc h_zrd h_sra h_srb h_src h_srd h_f h_a h_i1 h_i2 h_rs h_rm h_tp h_tf h_tx h_fu h_fl h_z0 h_z1 h_sr h_mn h_m0 h_m1 h_r0 h_r1 h_r2 h_r3 V hl
  by_cases c10 : x = nI 10
  · refine lv_tableIn (tgt := 546) (off := 513) hx hb dL_law_33 (by rw [c10]; decide +kernel) (by rw [c10]; decide +kernel) (by rw [c10]; decide +kernel) (by decide) ?_
    exact lkA_10 l hC hX hbl hbA hL3 hin hcz hsz hE h_n h_t h_nv h_tv h_nw h_tw h_zra h_zrb h_zrc h_zrd h_sra h_srb h_src h_srd h_f h_a h_i1 h_i2 h_rs h_rm h_tp h_tf h_tx h_fu h_fl h_z0 h_z1 h_sr h_mn h_m0 h_m1 h_r0 h_r1 h_r2 h_r3 V hl
  by_cases c11 : x = nI 11
  · refine lv_tableIn (tgt := 569) (off := 536) hx hb dL_law_33 (by rw [c11]; decide +kernel) (by rw [c11]; decide +kernel) (by rw [c11]; decide +kernel) (by decide) ?_
    exact lkA_11 l hC hX hbl hbA hL3 hin hcz hsz hE h_n h_t h_nv h_tv h_nw h_tw h_zra h_zrb h_zrc h_zrd h_sra h_srb h_src h_srd h_f h_a h_i1 h_i2 h_rs h_rm h_tp h_tf h_tx h_fu h_fl h_z0 h_z1 h_sr h_mn h_m0 h_m1 h_r0 h_r1 h_r2 h_r3 V hl
  by_cases c12 : x = nI 12
  · refine lv_tableIn (tgt := 592) (off := 559) hx hb dL_law_33 (by rw [c12]; decide +kernel) (by rw [c12]; decide +kernel) (by rw [c12]; decide +kernel) (by decide) ?_
    exact lkA_12 l hC hX hbl hbA hL3 hin hcz hsz hE h_n h_t h_nv h_tv h_nw h_tw h_zra h_zrb h_zrc h_zrd h_sra h_srb h_src h_srd h_f h_a h_i1 h_i2 h_rs h_rm h_tp h_tf h_tx h_fu h_fl h_z0 h_z1 h_sr h_mn h_m0 h_m1 h_r0 h_r1 h_r2 h_r3 V hl
  by_cases c13 : x = nI 13
  · refine lv_tableIn (tgt := 615) (off := 582) hx hb dL_law_33 (by rw [c13]; decide +kernel) (by rw [c13]; decide +kernel) (by rw [c13]; decide +kernel) (by decide) ?_
    exact lkA_13 l hC hX hbl hbA hL3 hin hcz hsz hE h_n h_t h_nv h_tv h_nw h_tw h_zra h_zrb h_zrc h_zrd h_sra h_srb h_src h_srd h_f h_a h_i1 h_i2 h_rs h_rm h_tp h_tf h_tx h_fu h_fl h_z0 h_z1 h_sr h_mn h_m0 h_m1 h_r0 h_r1 h_r2 h_r3 V hl
  by_cases c14 : x = nI 14
  · refine lv_tableIn (tgt := 648) (off := 615) hx hb dL_law_33 (by rw [c14]; decide +kernel) (by rw [c14]; decide +kernel) (by rw [c14]; decide +kernel) (by decide) ?_
    exact lkA_14 l hC hX hbl hbA hL3 hin hcz hsz hE h_n h_t h_nv h_tv h_nw h_tw h_zra h_zrb h_zrc h_zrd h_sra h_srb h_src h_srd h_f h_a h_i1 h_i2 h_rs h_rm h_tp h_tf h_tx h_fu h_fl h_z0 h_z1 h_sr h_mn h_m0 h_m1 h_r0 h_r1 h_r2 h_r3 V hl
  by_cases c15 : x = nI 15
  · refine lv_tableIn (tgt := 671) (off := 638) hx hb dL_law_33 (by rw [c15]; decide +kernel) (by rw [c15]; decide +kernel) (by rw [c15]; decide +kernel) (by decide) ?_
    exact lkA_15 l hC hX hbl hbA hL3 hin hcz hsz hE h_n h_t h_nv h_tv h_nw h_tw h_zra h_zrb h_zrc h_zrd h_sra h_srb h_src h_srd h_f h_a h_i1 h_i2 h_rs h_rm h_tp h_tf h_tx h_fu h_fl h_z0 h_z1 h_sr h_mn h_m0 h_m1 h_r0 h_r1 h_r2 h_r3 V hl
  by_cases c16 : x = nI 16
  · refine lv_tableIn (tgt := 684) (off := 651) hx hb dL_law_33 (by rw [c16]; decide +kernel) (by rw [c16]; decide +kernel) (by rw [c16]; decide +kernel) (by decide) ?_
    exact lkA_16 l hC hX hbl hbA hL3 hin hcz hsz hE h_n h_t h_nv h_tv h_nw h_tw h_zra h_zrb h_zrc h_zrd h_sra h_srb h_src h_srd h_f h_a h_i1 h_i2 h_rs h_rm h_tp h_tf h_tx h_fu h_fl h_z0 h_z1 h_sr h_mn h_m0 h_m1 h_r0 h_r1 h_r2 h_r3 V hl
  by_cases c17 : x = nI 17
  · refine lv_tableIn (tgt := 717) (off := 684) hx hb dL_law_33 (by rw [c17]; decide +kernel) (by rw [c17]; decide +kernel) (by rw [c17]; decide +kernel) (by decide) ?_
    exact lkA_17 l hC hX hbl hbA hL3 hin hcz hsz hE h_n h_t h_nv h_tv h_nw h_tw h_zra h_zrb h_zrc h_zrd h_sra h_srb h_src h_srd h_f h_a h_i1 h_i2 h_rs h_rm h_tp h_tf h_tx h_fu h_fl h_z0 h_z1 h_sr h_mn h_m0 h_m1 h_r0 h_r1 h_r2 h_r3 V hl
  by_cases c18 : x = nI 18
  · refine lv_tableIn (tgt := 730) (off := 697) hx hb dL_law_33 (by rw [c18]; decide +kernel) (by rw [c18]; decide +kernel) (by rw [c18]; decide +kernel) (by decide) ?_
    exact lkA_18 l hC hX hbl hbA hL3 hin hcz hsz hE h_n h_t h_nv h_tv h_nw h_tw h_zra h_zrb h_zrc h_zrd h_sra h_srb h_src h_srd h_f h_a h_i1 h_i2 h_rs h_rm h_tp h_tf h_tx h_fu h_fl h_z0 h_z1 h_sr h_mn h_m0 h_m1 h_r0 h_r1 h_r2 h_r3 V hl
  by_cases c19 : x = nI 19
  · refine lv_tableIn (tgt := 773) (off := 740) hx hb dL_law_33 (by rw [c19]; decide +kernel) (by rw [c19]; decide +kernel) (by rw [c19]; decide +kernel) (by decide) ?_
    exact lkA_19 l hC hX hbl hbA hL3 hin hcz hsz hE h_n h_t h_nv h_tv h_nw h_tw h_zra h_zrb h_zrc h_zrd h_sra h_srb h_src h_srd h_f h_a h_i1 h_i2 h_rs h_rm h_tp h_tf h_tx h_fu h_fl h_z0 h_z1 h_sr h_mn h_m0 h_m1 h_r0 h_r1 h_r2 h_r3 V hl
  by_cases c20 : x = nI 20
  · refine lv_tableIn (tgt := 806) (off := 773) hx hb dL_law_33 (by rw [c20]; decide +kernel) (by rw [c20]; decide +kernel) (by rw [c20]; decide +kernel) (by decide) ?_
    exact lkA_20 l hC hX hbl hbA hL3 hin hcz hsz hE h_n h_t h_nv h_tv h_nw h_tw h_zra h_zrb h_zrc h_zrd h_sra h_srb h_src h_srd h_f h_a h_i1 h_i2 h_rs h_rm h_tp h_tf h_tx h_fu h_fl h_z0 h_z1 h_sr h_mn h_m0 h_m1 h_r0 h_r1 h_r2 h_r3 V hl
  by_cases c21 : x = nI 21
  · refine lv_tableIn (tgt := 839) (off := 806) hx hb dL_law_33 (by rw [c21]; decide +kernel) (by rw [c21]; decide +kernel) (by rw [c21]; decide +kernel) (by decide) ?_
    exact lkA_21 l hC hX hbl hbA hL3 hin hcz hsz hE h_n h_t h_nv h_tv h_nw h_tw h_zra h_zrb h_zrc h_zrd h_sra h_srb h_src h_srd h_f h_a h_i1 h_i2 h_rs h_rm h_tp h_tf h_tx h_fu h_fl h_z0 h_z1 h_sr h_mn h_m0 h_m1 h_r0 h_r1 h_r2 h_r3 V hl
  by_cases c22 : x = nI 22
  · refine lv_tableIn (tgt := 862) (off := 829) hx hb dL_law_33 (by rw [c22]; decide +kernel) (by rw [c22]; decide +kernel) (by rw [c22]; decide +kernel) (by decide) ?_
    exact lkA_22 l hC hX hbl hbA hL3 hin hcz hsz hE h_n h_t h_nv h_tv h_nw h_tw h_zra h_zrb h_zrc h_zrd h_sra h_srb h_src h_srd h_f h_a h_i1 h_i2 h_rs h_rm h_tp h_tf h_tx h_fu h_fl h_z0 h_z1 h_sr h_mn h_m0 h_m1 h_r0 h_r1 h_r2 h_r3 V hl
  by_cases c23 : x = nI 23
  · refine lv_tableIn (tgt := 895) (off := 862) hx hb dL_law_33 (by rw [c23]; decide +kernel) (by rw [c23]; decide +kernel) (by rw [c23]; decide +kernel) (by decide) ?_
    exact lkA_23 l hC hX hbl hbA hL3 hin hcz hsz hE h_n h_t h_nv h_tv h_nw h_tw h_zra h_zrb h_zrc h_zrd h_sra h_srb h_src h_srd h_f h_a h_i1 h_i2 h_rs h_rm h_tp h_tf h_tx h_fu h_fl h_z0 h_z1 h_sr h_mn h_m0 h_m1 h_r0 h_r1 h_r2 h_r3 V hl
  by_cases c24 : x = nI 24
  · refine lv_tableIn (tgt := 918) (off := 885) hx hb dL_law_33 (by rw [c24]; decide +kernel) (by rw [c24]; decide +kernel) (by rw [c24]; decide +kernel) (by decide) ?_
    exact lkA_24 l hC hX hbl hbA hL3 hin hcz hsz hE h_n h_t h_nv h_tv h_nw h_tw h_zra h_zrb h_zrc h_zrd h_sra h_srb h_src h_srd h_f h_a h_i1 h_i2 h_rs h_rm h_tp h_tf h_tx h_fu h_fl h_z0 h_z1 h_sr h_mn h_m0 h_m1 h_r0 h_r1 h_r2 h_r3 V hl
  by_cases c25 : x = nI 25
  · refine lv_tableIn (tgt := 941) (off := 908) hx hb dL_law_33 (by rw [c25]; decide +kernel) (by rw [c25]; decide +kernel) (by rw [c25]; decide +kernel) (by decide) ?_
    exact lkA_25 l hC hX hbl hbA hL3 hin hcz hsz hE h_n h_t h_nv h_tv h_nw h_tw h_zra h_zrb h_zrc h_zrd h_sra h_srb h_src h_srd h_f h_a h_i1 h_i2 h_rs h_rm h_tp h_tf h_tx h_fu h_fl h_z0 h_z1 h_sr h_mn h_m0 h_m1 h_r0 h_r1 h_r2 h_r3 V hl
  by_cases c26 : x = nI 26
  · refine lv_tableIn (tgt := 954) (off := 921) hx hb dL_law_33 (by rw [c26]; decide +kernel) (by rw [c26]; decide +kernel) (by rw [c26]; decide +kernel) (by decide) ?_
    exact lkA_26 l hC hX hbl hbA hL3 hin hcz hsz hE h_n h_t h_nv h_tv h_nw h_tw h_zra h_zrb h_zrc h_zrd h_sra h_srb h_src h_srd h_f h_a h_i1 h_i2 h_rs h_rm h_tp h_tf h_tx h_fu h_fl h_z0 h_z1 h_sr h_mn h_m0 h_m1 h_r0 h_r1 h_r2 h_r3 V hl
  by_cases c27 : x = nI 27
  · refine lv_tableIn (tgt := 977) (off := 944) hx hb dL_law_33 (by rw [c27]; decide +kernel) (by rw [c27]; decide +kernel) (by rw [c27]; decide +kernel) (by decide) ?_
    exact lkA_27 l hC hX hbl hbA hL3 hin hcz hsz hE h_n h_t h_nv h_tv h_nw h_tw h_zra h_zrb h_zrc h_zrd h_sra h_srb h_src h_srd h_f h_a h_i1 h_i2 h_rs h_rm h_tp h_tf h_tx h_fu h_fl h_z0 h_z1 h_sr h_mn h_m0 h_m1 h_r0 h_r1 h_r2 h_r3 V hl
  by_cases c28 : x = nI 28
  · refine lv_tableIn (tgt := 1026) (off := 993) hx hb dL_law_33 (by rw [c28]; decide +kernel) (by rw [c28]; decide +kernel) (by rw [c28]; decide +kernel) (by decide) ?_
    exact lkA_28 l hC hX hbl hbA hL3 hin hcz hsz hE h_n h_t h_nv h_tv h_nw h_tw h_zra h_zrb h_zrc h_zrd h_sra h_srb h_src h_srd h_f h_a h_i1 h_i2 h_rs h_rm h_tp h_tf h_tx h_fu h_fl h_z0 h_z1 h_sr h_mn h_m0 h_m1 h_r0 h_r1 h_r2 h_r3 V hl
  by_cases c29 : x = nI 29
  · refine lv_tableIn (tgt := 1049) (off := 1016) hx hb dL_law_33 (by rw [c29]; decide +kernel) (by rw [c29]; decide +kernel) (by rw [c29]; decide +kernel) (by decide) ?_
    exact lkA_29 l hC hX hbl hbA hL3 hin hcz hsz hE h_n h_t h_nv h_tv h_nw h_tw h_zra h_zrb h_zrc h_zrd h_sra h_srb h_src h_srd h_f h_a h_i1 h_i2 h_rs h_rm h_tp h_tf h_tx h_fu h_fl h_z0 h_z1 h_sr h_mn h_m0 h_m1 h_r0 h_r1 h_r2 h_r3 V hl
  by_cases c30 : x = nI 30
  · refine lv_tableIn (tgt := 1082) (off := 1049) hx hb dL_law_33 (by rw [c30]; decide +kernel) (by rw [c30]; decide +kernel) (by rw [c30]; decide +kernel) (by decide) ?_
    exact lkA_30 l hC hX hbl hbA hL3 hin hcz hsz hE h_n h_t h_nv h_tv h_nw h_tw h_zra h_zrb h_zrc h_zrd h_sra h_srb h_src h_srd h_f h_a h_i1 h_i2 h_rs h_rm h_tp h_tf h_tx h_fu h_fl h_z0 h_z1 h_sr h_mn h_m0 h_m1 h_r0 h_r1 h_r2 h_r3 V hl
  by_cases c31 : x = nI 31
  · refine lv_tableIn (tgt := 1125) (off := 1092) hx hb dL_law_33 (by rw [c31]; decide +kernel) (by rw [c31]; decide +kernel) (by rw [c31]; decide +kernel) (by decide) ?_
    exact lkA_31 l hC hX hbl hbA hL3 hin hcz hsz hE h_n h_t h_nv h_tv h_nw h_tw h_zra h_zrb h_zrc h_zrd h_sra h_srb h_src h_srd h_f h_a h_i1 h_i2 h_rs h_rm h_tp h_tf h_tx h_fu h_fl h_z0 h_z1 h_sr h_mn h_m0 h_m1 h_r0 h_r1 h_r2 h_r3 V hl
  by_cases c32 : x = nI 32
  · refine lv_tableIn (tgt := 1158) (off := 1125) hx hb dL_law_33 (by rw [c32]; decide +kernel) (by rw [c32]; decide +kernel) (by rw [c32]; decide +kernel) (by decide) ?_
    exact lkA_32 l hC hX hbl hbA hL3 hin hcz hsz hE h_n h_t h_nv h_tv h_nw h_tw h_zra h_zrb h_zrc h_zrd h_sra h_srb h_src h_srd h_f h_a h_i1 h_i2 h_rs h_rm h_tp h_tf h_tx h_fu h_fl h_z0 h_z1 h_sr h_mn h_m0 h_m1 h_r0 h_r1 h_r2 h_r3 V hl
  by_cases c33 : x = nI 33
  · refine lv_tableIn (tgt := 1191) (off := 1158) hx hb dL_law_33 (by rw [c33]; decide +kernel) (by rw [c33]; decide +kernel) (by rw [c33]; decide +kernel) (by decide) ?_
    exact lkA_33 l hC hX hbl hbA hL3 hin hcz hsz hE h_n h_t h_nv h_tv h_nw h_tw h_zra h_zrb h_zrc h_zrd h_sra h_srb h_src h_srd h_f h_a h_i1 h_i2 h_rs h_rm h_tp h_tf h_tx h_fu h_fl h_z0 h_z1 h_sr h_mn h_m0 h_m1 h_r0 h_r1 h_r2 h_r3 V hl
  by_cases c34 : x = nI 34
  · refine lv_tableIn (tgt := 1214) (off := 1181) hx hb dL_law_33 (by rw [c34]; decide +kernel) (by rw [c34]; decide +kernel) (by rw [c34]; decide +kernel) (by decide) ?_
    exact lkA_34 l hC hX hbl hbA hL3 hin hcz hsz hE h_n h_t h_nv h_tv h_nw h_tw h_zra h_zrb h_zrc h_zrd h_sra h_srb h_src h_srd h_f h_a h_i1 h_i2 h_rs h_rm h_tp h_tf h_tx h_fu h_fl h_z0 h_z1 h_sr h_mn h_m0 h_m1 h_r0 h_r1 h_r2 h_r3 V hl
  by_cases c35 : x = nI 35
  · refine lv_tableIn (tgt := 1247) (off := 1214) hx hb dL_law_33 (by rw [c35]; decide +kernel) (by rw [c35]; decide +kernel) (by rw [c35]; decide +kernel) (by decide) ?_
    exact lkA_35 l hC hX hbl hbA hL3 hin hcz hsz hE h_n h_t h_nv h_tv h_nw h_tw h_zra h_zrb h_zrc h_zrd h_sra h_srb h_src h_srd h_f h_a h_i1 h_i2 h_rs h_rm h_tp h_tf h_tx h_fu h_fl h_z0 h_z1 h_sr h_mn h_m0 h_m1 h_r0 h_r1 h_r2 h_r3 V hl
  by_cases c36 : x = nI 36
  · refine lv_tableIn (tgt := 1270) (off := 1237) hx hb dL_law_33 (by rw [c36]; decide +kernel) (by rw [c36]; decide +kernel) (by rw [c36]; decide +kernel) (by decide) ?_
    exact lkA_36 l hC hX hbl hbA hL3 hin hcz hsz hE h_n h_t h_nv h_tv h_nw h_tw h_zra h_zrb h_zrc h_zrd h_sra h_srb h_src h_srd h_f h_a h_i1 h_i2 h_rs h_rm h_tp h_tf h_tx h_fu h_fl h_z0 h_z1 h_sr h_mn h_m0 h_m1 h_r0 h_r1 h_r2 h_r3 V hl
  by_cases c37 : x = nI 37
  · refine lv_tableIn (tgt := 1313) (off := 1280) hx hb dL_law_33 (by rw [c37]; decide +kernel) (by rw [c37]; decide +kernel) (by rw [c37]; decide +kernel) (by decide) ?_
    exact lkA_37 l hC hX hbl hbA hL3 hin hcz hsz hE h_n h_t h_nv h_tv h_nw h_tw h_zra h_zrb h_zrc h_zrd h_sra h_srb h_src h_srd h_f h_a h_i1 h_i2 h_rs h_rm h_tp h_tf h_tx h_fu h_fl h_z0 h_z1 h_sr h_mn h_m0 h_m1 h_r0 h_r1 h_r2 h_r3 V hl
  by_cases c38 : x = nI 38
  · refine lv_tableIn (tgt := 1386) (off := 1353) hx hb dL_law_33 (by rw [c38]; decide +kernel) (by rw [c38]; decide +kernel) (by rw [c38]; decide +kernel) (by decide) ?_
    exact lkA_38 l hC hX hbl hbA hL3 hin hcz hsz hE h_n h_t h_nv h_tv h_nw h_tw h_zra h_zrb h_zrc h_zrd h_sra h_srb h_src h_srd h_f h_a h_i1 h_i2 h_rs h_rm h_tp h_tf h_tx h_fu h_fl h_z0 h_z1 h_sr h_mn h_m0 h_m1 h_r0 h_r1 h_r2 h_r3 V hl
  by_cases c39 : x = nI 39
  · refine lv_tableIn (tgt := 1409) (off := 1376) hx hb dL_law_33 (by rw [c39]; decide +kernel) (by rw [c39]; decide +kernel) (by rw [c39]; decide +kernel) (by decide) ?_
    exact lkA_39 l hC hX hbl hbA hL3 hin hcz hsz hE h_n h_t h_nv h_tv h_nw h_tw h_zra h_zrb h_zrc h_zrd h_sra h_srb h_src h_srd h_f h_a h_i1 h_i2 h_rs h_rm h_tp h_tf h_tx h_fu h_fl h_z0 h_z1 h_sr h_mn h_m0 h_m1 h_r0 h_r1 h_r2 h_r3 V hl
  by_cases c40 : x = nI 40
  · refine lv_tableIn (tgt := 1432) (off := 1399) hx hb dL_law_33 (by rw [c40]; decide +kernel) (by rw [c40]; decide +kernel) (by rw [c40]; decide +kernel) (by decide) ?_
    exact lkA_40 l hC hX hbl hbA hL3 hin hcz hsz hE h_n h_t h_nv h_tv h_nw h_tw h_zra h_zrb h_zrc h_zrd h_sra h_srb h_src h_srd h_f h_a h_i1 h_i2 h_rs h_rm h_tp h_tf h_tx h_fu h_fl h_z0 h_z1 h_sr h_mn h_m0 h_m1 h_r0 h_r1 h_r2 h_r3 V hl
  by_cases c41 : x = nI 41
  · refine lv_tableIn (tgt := 1455) (off := 1422) hx hb dL_law_33 (by rw [c41]; decide +kernel) (by rw [c41]; decide +kernel) (by rw [c41]; decide +kernel) (by decide) ?_
    exact lkA_41 l hC hX hbl hbA hL3 hin hcz hsz hE h_n h_t h_nv h_tv h_nw h_tw h_zra h_zrb h_zrc h_zrd h_sra h_srb h_src h_srd h_f h_a h_i1 h_i2 h_rs h_rm h_tp h_tf h_tx h_fu h_fl h_z0 h_z1 h_sr h_mn h_m0 h_m1 h_r0 h_r1 h_r2 h_r3 V hl
  refine lv_tableOut (tgt := 1478) hx hb dL_law_33 (g_out42 (fun j hj => ?_)) (by decide) ?_
  · exact (match j, hj with
    | 0, _ => c0
    | 1, _ => c1
    | 2, _ => c2
    | 3, _ => c3
    | 4, _ => c4
    | 5, _ => c5
    | 6, _ => c6
    | 7, _ => c7
    | 8, _ => c8
    | 9, _ => c9
    | 10, _ => c10
    | 11, _ => c11
    | 12, _ => c12
    | 13, _ => c13
    | 14, _ => c14
    | 15, _ => c15
    | 16, _ => c16
    | 17, _ => c17
    | 18, _ => c18
    | 19, _ => c19
    | 20, _ => c20
    | 21, _ => c21
    | 22, _ => c22
    | 23, _ => c23
    | 24, _ => c24
    | 25, _ => c25
    | 26, _ => c26
    | 27, _ => c27
    | 28, _ => c28
    | 29, _ => c29
    | 30, _ => c30
    | 31, _ => c31
    | 32, _ => c32
    | 33, _ => c33
    | 34, _ => c34
    | 35, _ => c35
    | 36, _ => c36
    | 37, _ => c37
    | 38, _ => c38
    | 39, _ => c39
    | 40, _ => c40
    | 41, _ => c41
    | j + 42, h => absurd h (by omega))
  · exact W.widen (by omega) (by omega) (hE _ _ _ (.inl (LwA_mk h_n h_t h_nv h_tv h_nw h_tw h_zra h_zrb h_zrc h_zrd h_sra h_srb h_src h_srd h_f h_a h_i1 h_i2 h_rs h_rm h_tp h_tf h_tx h_fu h_fl h_z0 h_z1 h_sr h_mn h_m0 h_m1 h_r0 h_r1 h_r2 h_r3 V)) hl)

set_option maxHeartbeats 4000000 in
set_option maxRecDepth 100000 in
theorem lw_swB {p : Program} {e : Env} {s : State} {m : MethodId} {args : Array Value} {below : List Frame} {meth : Method} {c : Code} {Q : State → Prop} (l : Launch) {b L t cz sz ox o : Nat} {xs : Nat → Int32} {D : va_G} {T : Nat → ClassId} {A : Nat → Prop} (hC : cX p s m args meth c RL cL_law 4 (some .boolean)) (hX : va_X b L xs s s.heap) (hbl : b < s.heap.size) (hbA : ¬ A b) (hL3 : L ≤ 3072) (hin : 6 * t + 6 ≤ L) (hcz : cz + 7 ≤ 600000) (hsz : sz + 11233 ≤ 7302250) (hE : ∀ (H : Heap) (locs : List Loc) (ls : Array Slot), (LwA D T A s ox o H locs ∨ LwB D T A s ox o H locs) → lv_has ls 4 [(3, .int (nI (6 * t))), (2, .ref o), (1, .ref ox), (0, .ref b)] → W p l e room_1 s m args below meth c H locs (cz + 7) (sz + 11233) Q (F0 m 1478 ls [])) {H : Heap} {locs : List Loc} {ls : Array Slot} {n0 : Nat} {s0 : Nat} {im : Nat} {iz : Nat} {rw : Nat} {t0 : Nat} {u0 : Nat} {h0 : Nat} {y0 : Nat} {e0 : Nat} {nn : Nat} {nm : Int32} {nl : Int32} {no : Int32} {nu : Int32} {n1 : Nat} {n2 : Nat} {n3 : Nat} {n4 : Nat} {n5 : Nat} {n6 : Nat} {n7 : Nat} {n8 : Nat} {n9 : Nat} {n10 : Nat} {nf1 : Nat → Int32} {nf2 : Nat → Int32} {nf3 : Nat → Int32} {nf4 : Nat → Int32} {nf5 : Nat → Int32} {nf6 : Nat → Int32} {nf7 : Nat → Int32} {nf8 : Nat → Int32} {nf9 : Nat → Int32} {nf10 : Nat → Int32} {sn : Int32} {sm : Int32} {sl : Int32} {so : Int32} {su : Int32} {s1 : Nat} {s2 : Nat} {s3 : Nat} {s4 : Nat} {s5 : Nat} {s6 : Nat} {s7 : Nat} {s8 : Nat} {s9 : Nat} {s10 : Nat} {sf1 : Nat → Int32} {sf2 : Nat → Int32} {sf3 : Nat → Int32} {sf4 : Nat → Int32} {sf5 : Nat → Int32} {sf6 : Nat → Int32} {sf7 : Nat → Int32} {sf8 : Nat → Int32} {sf9 : Nat → Int32} {sf10 : Nat → Int32} {v0 : Nat} {w0 : Nat} {fz : Nat → Int32} {ra0 : Nat} {rb0 : Nat} {rc0 : Nat} {rd0 : Nat} {rah : Int32} {raz : Nat} {ra1 : Nat} {ras : Nat} {raf : Nat → Int64} {rbh : Int32} {rbz : Nat} {rb1 : Nat} {rbs : Nat} {rbf : Nat → Int64} {rch : Int32} {rcz : Nat} {rc1 : Nat} {rcs : Nat} {rcf : Nat → Int64} {rdh : Int32} {rdz : Nat} {rd1 : Nat} {rds : Nat} {rdf : Nat → Int64} {tf : Nat} {tu : Int32} {tl : Int32} {t1 : Nat} {te : Int32} {tk : Int32} {tr : Int32} {tb : Int32} {tx : Nat → Int32} {uk1 : Int32} {uk2 : Int32} {uk3 : Int32} {h1 : Nat} {qx : Int32} {qy : Int32} {ql : Int32} {h2 : Nat} {h3 : Nat} {qb : Nat → Int32} {qp : Nat → Int32} {qc : Nat → Int32} {ys : Int32} {y1 : Nat} {y2 : Nat} {yb : Nat → Int32} {yt : Nat → Int32} {vn : Nat} {vm : Int32} {vl : Int32} {vo : Int32} {vu : Int32} {v1 : Nat} {v2 : Nat} {v3 : Nat} {v4 : Nat} {v5 : Nat} {v6 : Nat} {v7 : Nat} {v8 : Nat} {v9 : Nat} {v10 : Nat} {vf1 : Nat → Int32} {vf2 : Nat → Int32} {vf3 : Nat → Int32} {vf4 : Nat → Int32} {vf5 : Nat → Int32} {vf6 : Nat → Int32} {vf7 : Nat → Int32} {vf8 : Nat → Int32} {vf9 : Nat → Int32} {vf10 : Nat → Int32} {wn : Nat} {wm : Int32} {wl : Int32} {wo : Int32} {wu : Int32} {w1 : Nat} {w2 : Nat} {w3 : Nat} {w4 : Nat} {w5 : Nat} {w6 : Nat} {w7 : Nat} {w8 : Nat} {w9 : Nat} {w10 : Nat} {wf1 : Nat → Int32} {wf2 : Nat → Int32} {wf3 : Nat → Int32} {wf4 : Nat → Int32} {wf5 : Nat → Int32} {wf6 : Nat → Int32} {wf7 : Nat → Int32} {wf8 : Nat → Int32} {wf9 : Nat → Int32} {wf10 : Nat → Int32} {kw0 : Int32} {g1 : Nat} {g2 : Nat} {g3 : Nat} {g4 : Nat} {tp : Nat} {kw6 : Int32} {kw7 : Int32} {kw8 : Int32} {kw9 : Int32} {kw10 : Int32} {kw11 : Int32} {kw12 : Int32} {kw13 : Int32} {kw14 : Int32} {g15 : Nat} {kw16 : Int32} {g17 : Nat} {kw18 : Int32} {kw19 : Int32} {g20 : Nat} {kw21 : Int32} {g22 : Nat} {g23 : Nat} {g24 : Nat} {kw25 : Int32} {kw26 : Int32} {kw27 : Int32} {g28 : Nat} {g29 : Nat} {kw30 : Int32} {g31 : Nat} {g32 : Nat} {g33 : Nat} {fa : Nat → Int32} {fi_ : Nat → Int32} {ft : Nat → Int32} {ff : Nat → Int32} {fh : Nat → Int32} {fk : Nat → Int32} {fr : Nat → Int64} {fb : Nat → Int64} {fs : Nat → Int64} {fc : Nat → Int32} {fo : Nat → Int32} {fp : Nat → Int32} {fq : Nat → Int32} {fm : Nat → Int32} {fn : Nat → Int64} {e1 : Nat} {e2 : Nat} {em : Int32} {e3 : Nat} {e4 : Nat} {e5 : Nat} {e6 : Nat} {ea : Nat → Int64} {eb : Nat → Int32} {ec : Nat → Int32} {ed : Nat → Int32} {ee : Nat → Int32} {ef : Nat → Int32} {nI1 : Nat} {nI2 : Nat} (h_n : nn ≤ 10) (h_t : ∀ i, i < nn → bd (nf9 i) nn) (h_nv : vn ≤ 10) (h_tv : ∀ i, i < vn → bd (vf9 i) vn) (h_nw : wn ≤ 10) (h_tw : ∀ i, i < wn → bd (wf9 i) wn) (h_zra : raz ≤ 40) (h_zrb : rbz ≤ 40) (h_zrc : rcz ≤ 40) (h_zrd : rdz ≤ 40) (h_sra : ras ≤ 3) (h_srb : rbs ≤ 3) (h_src : rcs ≤ 3) (h_srd : rds ≤ 3) (h_f : tf ≤ 900) (h_a : MI nn fa) (h_i1 : MI nI1 (fun j => fa (94 + j))) (h_i2 : MI nI2 (fun j => fa (188 + j))) (h_rs : ∀ i, i < 4 → (fq i = -1 ∨ bd (fq i) 4)) (h_rm : ∀ i, i < 4 → bd (fm i) 41) (h_tp : tp ≤ 900) (h_tf : tf = tp) (h_tx : TXT tf tx ft) (h_fu : tu = kw13) (h_fl : tl = kw14) (h_z0 : fz 0 = fi_ 0) (h_z1 : fz 1 = fi_ 1) (h_sr : SR nn nm nl no nf1 nf2 nf3 nf4 nf5 nf6 nf7 nf9 fa) (h_mn : bd (fa 1) 10000) (h_m0 : IM (fz 0) vn vm vl vo vf1 vf2 vf3 vf4 vf5 vf6 vf7 vf9 (fun j => fa (94 + j))) (h_m1 : IM (fz 1) wn wm wl wo wf1 wf2 wf3 wf4 wf5 wf6 wf7 wf9 (fun j => fa (188 + j))) (h_r0 : RW 0 rah raz ras raf fq fm fn) (h_r1 : RW 1 rbh rbz rbs rbf fq fm fn) (h_r2 : RW 2 rch rcz rcs rcf fq fm fn) (h_r3 : RW 3 rdh rdz rds rdf fq fm fn) (V : gW D T A s [(ox, .inr (7, [.ref n0, .ref s0, .ref im, .ref iz, .ref rw, .ref t0, .ref u0, .ref h0, .ref y0, .ref e0])), (n0, .inr (5, [.int (nI nn), .int nm, .int nl, .int no, .int nu, .ref n1, .ref n2, .ref n3, .ref n4, .ref n5, .ref n6, .ref n7, .ref n8, .ref n9, .ref n10])), (n1, .inl (T 0, 10, .inl nf1)), (n2, .inl (T 0, 10, .inl nf2)), (n3, .inl (T 0, 10, .inl nf3)), (n4, .inl (T 0, 10, .inl nf4)), (n5, .inl (T 0, 10, .inl nf5)), (n6, .inl (T 0, 10, .inl nf6)), (n7, .inl (T 0, 10, .inl nf7)), (n8, .inl (T 0, 10, .inl nf8)), (n9, .inl (T 0, 10, .inl nf9)), (n10, .inl (T 0, 10, .inl nf10)), (s0, .inr (5, [.int sn, .int sm, .int sl, .int so, .int su, .ref s1, .ref s2, .ref s3, .ref s4, .ref s5, .ref s6, .ref s7, .ref s8, .ref s9, .ref s10])), (s1, .inl (T 0, 10, .inl sf1)), (s2, .inl (T 0, 10, .inl sf2)), (s3, .inl (T 0, 10, .inl sf3)), (s4, .inl (T 0, 10, .inl sf4)), (s5, .inl (T 0, 10, .inl sf5)), (s6, .inl (T 0, 10, .inl sf6)), (s7, .inl (T 0, 10, .inl sf7)), (s8, .inl (T 0, 10, .inl sf8)), (s9, .inl (T 0, 10, .inl sf9)), (s10, .inl (T 0, 10, .inl sf10)), (im, .inl (T 4, 2, .inr (.inr (.inr (.inr (va_up (va_up (fun _ => none) 0 (some v0)) 1 (some w0))))))), (iz, .inl (T 2, 2, .inl fz)), (rw, .inl (T 5, 4, .inr (.inr (.inr (.inr (va_up (va_up (va_up (va_up (fun _ => none) 0 (some ra0)) 1 (some rb0)) 2 (some rc0)) 3 (some rd0))))))), (ra0, .inr (1, [.int rah, .int (nI raz), .ref ra1, .int (nI ras)])), (ra1, .inl (T 1, 40, .inr (.inl raf))), (rb0, .inr (1, [.int rbh, .int (nI rbz), .ref rb1, .int (nI rbs)])), (rb1, .inl (T 1, 40, .inr (.inl rbf))), (rc0, .inr (1, [.int rch, .int (nI rcz), .ref rc1, .int (nI rcs)])), (rc1, .inl (T 1, 40, .inr (.inl rcf))), (rd0, .inr (1, [.int rdh, .int (nI rdz), .ref rd1, .int (nI rds)])), (rd1, .inl (T 1, 40, .inr (.inl rdf))), (t0, .inr (2, [.int (nI tf), .int tu, .int tl, .ref t1, .int te, .int tk, .int tr, .int tb])), (t1, .inl (T 3, 900, .inl tx)), (u0, .inr (6, [.int uk1, .int uk2, .int uk3])), (h0, .inr (3, [.ref h1, .int qx, .int qy, .int ql, .ref h2, .ref h3])), (h1, .inl (T 0, 10, .inl qb)), (h2, .inl (T 0, 10, .inl qp)), (h3, .inl (T 0, 12, .inl qc)), (y0, .inr (0, [.int ys, .ref y1, .ref y2])), (y1, .inl (T 0, 7, .inl yb)), (y2, .inl (T 0, 7, .inl yt)), (v0, .inr (5, [.int (nI vn), .int vm, .int vl, .int vo, .int vu, .ref v1, .ref v2, .ref v3, .ref v4, .ref v5, .ref v6, .ref v7, .ref v8, .ref v9, .ref v10])), (v1, .inl (T 0, 10, .inl vf1)), (v2, .inl (T 0, 10, .inl vf2)), (v3, .inl (T 0, 10, .inl vf3)), (v4, .inl (T 0, 10, .inl vf4)), (v5, .inl (T 0, 10, .inl vf5)), (v6, .inl (T 0, 10, .inl vf6)), (v7, .inl (T 0, 10, .inl vf7)), (v8, .inl (T 0, 10, .inl vf8)), (v9, .inl (T 0, 10, .inl vf9)), (v10, .inl (T 0, 10, .inl vf10)), (w0, .inr (5, [.int (nI wn), .int wm, .int wl, .int wo, .int wu, .ref w1, .ref w2, .ref w3, .ref w4, .ref w5, .ref w6, .ref w7, .ref w8, .ref w9, .ref w10])), (w1, .inl (T 0, 10, .inl wf1)), (w2, .inl (T 0, 10, .inl wf2)), (w3, .inl (T 0, 10, .inl wf3)), (w4, .inl (T 0, 10, .inl wf4)), (w5, .inl (T 0, 10, .inl wf5)), (w6, .inl (T 0, 10, .inl wf6)), (w7, .inl (T 0, 10, .inl wf7)), (w8, .inl (T 0, 10, .inl wf8)), (w9, .inl (T 0, 10, .inl wf9)), (w10, .inl (T 0, 10, .inl wf10)), (o, .inr (8, [.int kw0, .ref g1, .ref g2, .ref g3, .ref g4, .int (nI tp), .int kw6, .int kw7, .int kw8, .int kw9, .int kw10, .int kw11, .int kw12, .int kw13, .int kw14, .ref g15, .int kw16, .ref g17, .int kw18, .int kw19, .ref g20, .int kw21, .ref g22, .ref g23, .ref g24, .int kw25, .int kw26, .int kw27, .ref g28, .ref g29, .int kw30, .ref g31, .ref g32, .ref g33])), (g1, .inl (T 0, 282, .inl fa)), (g2, .inl (T 2, 2, .inl fi_)), (g3, .inl (T 0, 900, .inl ft)), (g4, .inl (T 0, 94, .inl ff)), (g15, .inl (T 0, 10, .inl fh)), (g17, .inl (T 0, 94, .inl fk)), (g20, .inl (T 1, 10, .inr (.inl fr))), (g22, .inl (T 1, 10, .inr (.inl fb))), (g23, .inl (T 1, 3001, .inr (.inl fs))), (g24, .inl (T 0, 8192, .inl fc)), (g28, .inl (T 0, 7, .inl fo)), (g29, .inl (T 0, 7, .inl fp)), (g31, .inl (T 0, 4, .inl fq)), (g32, .inl (T 0, 4, .inl fm)), (g33, .inl (T 1, 160, .inr (.inl fn))), (e0, .inr (4, [.ref e1, .ref e2, .int em, .ref e3, .ref e4, .ref e5, .ref e6])), (e1, .inl (T 1, 3001, .inr (.inl ea))), (e2, .inl (T 0, 8192, .inl eb)), (e3, .inl (T 0, 3, .inl ec)), (e4, .inl (T 0, 3, .inl ed)), (e5, .inl (T 0, 3, .inl ee)), (e6, .inl (T 0, 24, .inl ef))] H locs) (hl : lv_has ls 4 [(3, .int (nI (6 * t))), (2, .ref o), (1, .ref ox), (0, .ref b)]) {x : Int32} : W p l e room_1 s m args below meth c H locs cz sz Q (F0 m 33 ls [.int x]) := by
  obtain ⟨hx, hb, hr, hml, hown, hts, hlocks⟩ := id hC
  by_cases c0 : x = nI 0
  · refine lv_tableIn (tgt := 216) (off := 183) hx hb dL_law_33 (by rw [c0]; decide +kernel) (by rw [c0]; decide +kernel) (by rw [c0]; decide +kernel) (by decide) ?_
    exact lkB_0 l hC hX hbl hbA hL3 hin hcz hsz hE h_n h_t h_nv h_tv h_nw h_tw h_zra h_zrb h_zrc h_zrd h_sra h_srb h_src h_srd h_f h_a h_i1 h_i2 h_rs h_rm h_tp h_tf h_tx h_fu h_fl h_z0 h_z1 h_sr h_mn h_m0 h_m1 h_r0 h_r1 h_r2 h_r3 V hl
  by_cases c1 : x = nI 1
  · refine lv_tableIn (tgt := 279) (off := 246) hx hb dL_law_33 (by rw [c1]; decide +kernel) (by rw [c1]; decide +kernel) (by rw [c1]; decide +kernel) (by decide) ?_
    exact lkB_1 l hC hX hbl hbA hL3 hin hcz hsz hE h_n h_t h_nv h_tv h_nw h_tw h_zra h_zrb h_zrc h_zrd h_sra h_srb h_src h_srd h_f h_a h_i1 h_i2 h_rs h_rm h_tp h_tf h_tx h_fu h_fl h_z0 h_z1 h_sr h_mn h_m0 h_m1 h_r0 h_r1 h_r2 h_r3 V hl
  by_cases c2 : x = nI 2
  · refine lv_tableIn (tgt := 302) (off := 269) hx hb dL_law_33 (by rw [c2]; decide +kernel) (by rw [c2]; decide +kernel) (by rw [c2]; decide +kernel) (by decide) ?_
    exact lkB_2 l hC hX hbl hbA hL3 hin hcz hsz hE h_n h_t h_nv h_tv h_nw h_tw h_zra h_zrb h_zrc h_zrd h_sra h_srb h_src h_srd h_f h_a h_i1 h_i2 h_rs h_rm h_tp h_tf h_tx h_fu h_fl h_z0 h_z1 h_sr h_mn h_m0 h_m1 h_r0 h_r1 h_r2 h_r3 V hl
  by_cases c3 : x = nI 3
  · refine lv_tableIn (tgt := 325) (off := 292) hx hb dL_law_33 (by rw [c3]; decide +kernel) (by rw [c3]; decide +kernel) (by rw [c3]; decide +kernel) (by decide) ?_
    exact lkB_3 l hC hX hbl hbA hL3 hin hcz hsz hE h_n h_t h_nv h_tv h_nw h_tw h_zra h_zrb h_zrc h_zrd h_sra h_srb h_src h_srd h_f h_a h_i1 h_i2 h_rs h_rm h_tp h_tf h_tx h_fu h_fl h_z0 h_z1 h_sr h_mn h_m0 h_m1 h_r0 h_r1 h_r2 h_r3 V hl
  by_cases c4 : x = nI 4
  · refine lv_tableIn (tgt := 358) (off := 325) hx hb dL_law_33 (by rw [c4]; decide +kernel) (by rw [c4]; decide +kernel) (by rw [c4]; decide +kernel) (by decide) ?_
    exact lkB_4 l hC hX hbl hbA hL3 hin hcz hsz hE h_n h_t h_nv h_tv h_nw h_tw h_zra h_zrb h_zrc h_zrd h_sra h_srb h_src h_srd h_f h_a h_i1 h_i2 h_rs h_rm h_tp h_tf h_tx h_fu h_fl h_z0 h_z1 h_sr h_mn h_m0 h_m1 h_r0 h_r1 h_r2 h_r3 V hl
  by_cases c5 : x = nI 5
  · refine lv_tableIn (tgt := 381) (off := 348) hx hb dL_law_33 (by rw [c5]; decide +kernel) (by rw [c5]; decide +kernel) (by rw [c5]; decide +kernel) (by decide) ?_
    exact lkB_5 l hC hX hbl hbA hL3 hin hcz hsz hE h_n h_t h_nv h_tv h_nw h_tw h_zra h_zrb h_zrc h_zrd h_sra h_srb h_src h_srd h_f h_a h_i1 h_i2 h_rs h_rm h_tp h_tf h_tx h_fu h_fl h_z0 h_z1 h_sr h_mn h_m0 h_m1 h_r0 h_r1 h_r2 h_r3 V hl
  by_cases c6 : x = nI 6
  · refine lv_tableIn (tgt := 414) (off := 381) hx hb dL_law_33 (by rw [c6]; decide +kernel) (by rw [c6]; decide +kernel) (by rw [c6]; decide +kernel) (by decide) ?_
    exact lkB_6 l hC hX hbl hbA hL3 hin hcz hsz hE h_n h_t h_nv h_tv h_nw h_tw h_zra h_zrb h_zrc h_zrd h_sra h_srb h_src h_srd h_f h_a h_i1 h_i2 h_rs h_rm h_tp h_tf h_tx h_fu h_fl h_z0 h_z1 h_sr h_mn h_m0 h_m1 h_r0 h_r1 h_r2 h_r3 V hl
  by_cases c7 : x = nI 7
  · refine lv_tableIn (tgt := 447) (off := 414) hx hb dL_law_33 (by rw [c7]; decide +kernel) (by rw [c7]; decide +kernel) (by rw [c7]; decide +kernel) (by decide) ?_
    exact lkB_7 l hC hX hbl hbA hL3 hin hcz hsz hE h_n h_t h_nv h_tv h_nw h_tw h_zra h_zrb h_zrc h_zrd h_sra h_srb h_src h_srd h_f h_a h_i1 h_i2 h_rs h_rm h_tp h_tf h_tx h_fu h_fl h_z0 h_z1 h_sr h_mn h_m0 h_m1 h_r0 h_r1 h_r2 h_r3 V hl
  by_cases c8 : x = nI 8
  · refine lv_tableIn (tgt := 480) (off := 447) hx hb dL_law_33 (by rw [c8]; decide +kernel) (by rw [c8]; decide +kernel) (by rw [c8]; decide +kernel) (by decide) ?_
    exact lkB_8 l hC hX hbl hbA hL3 hin hcz hsz hE h_n h_t h_nv h_tv h_nw h_tw h_zra h_zrb h_zrc h_zrd h_sra h_srb h_src h_srd h_f h_a h_i1 h_i2 h_rs h_rm h_tp h_tf h_tx h_fu h_fl h_z0 h_z1 h_sr h_mn h_m0 h_m1 h_r0 h_r1 h_r2 h_r3 V hl
  by_cases c9 : x = nI 9
  · refine lv_tableIn (tgt := 513) (off := 480) hx hb dL_law_33 (by rw [c9]; decide +kernel) (by rw [c9]; decide +kernel) (by rw [c9]; decide +kernel) (by decide) ?_
    exact lkB_9 l hC hX hbl hbA hL3 hin hcz hsz hE h_n h_t h_nv h_tv h_nw h_tw h_zra h_zrb h_zrc h_zrd h_sra h_srb h_src h_srd h_f h_a h_i1 h_i2 h_rs h_rm h_tp h_tf h_tx h_fu h_fl h_z0 h_z1 h_sr h_mn h_m0 h_m1 h_r0 h_r1 h_r2 h_r3 V hl
  by_cases c10 : x = nI 10
  · refine lv_tableIn (tgt := 546) (off := 513) hx hb dL_law_33 (by rw [c10]; decide +kernel) (by rw [c10]; decide +kernel) (by rw [c10]; decide +kernel) (by decide) ?_
    exact lkB_10 l hC hX hbl hbA hL3 hin hcz hsz hE h_n h_t h_nv h_tv h_nw h_tw h_zra h_zrb h_zrc h_zrd h_sra h_srb h_src h_srd h_f h_a h_i1 h_i2 h_rs h_rm h_tp h_tf h_tx h_fu h_fl h_z0 h_z1 h_sr h_mn h_m0 h_m1 h_r0 h_r1 h_r2 h_r3 V hl
  by_cases c11 : x = nI 11
  · refine lv_tableIn (tgt := 569) (off := 536) hx hb dL_law_33 (by rw [c11]; decide +kernel) (by rw [c11]; decide +kernel) (by rw [c11]; decide +kernel) (by decide) ?_
    exact lkB_11 l hC hX hbl hbA hL3 hin hcz hsz hE h_n h_t h_nv h_tv h_nw h_tw h_zra h_zrb h_zrc h_zrd h_sra h_srb h_src h_srd h_f h_a h_i1 h_i2 h_rs h_rm h_tp h_tf h_tx h_fu h_fl h_z0 h_z1 h_sr h_mn h_m0 h_m1 h_r0 h_r1 h_r2 h_r3 V hl
  by_cases c12 : x = nI 12
  · refine lv_tableIn (tgt := 592) (off := 559) hx hb dL_law_33 (by rw [c12]; decide +kernel) (by rw [c12]; decide +kernel) (by rw [c12]; decide +kernel) (by decide) ?_
    exact lkB_12 l hC hX hbl hbA hL3 hin hcz hsz hE h_n h_t h_nv h_tv h_nw h_tw h_zra h_zrb h_zrc h_zrd h_sra h_srb h_src h_srd h_f h_a h_i1 h_i2 h_rs h_rm h_tp h_tf h_tx h_fu h_fl h_z0 h_z1 h_sr h_mn h_m0 h_m1 h_r0 h_r1 h_r2 h_r3 V hl
  by_cases c13 : x = nI 13
  · refine lv_tableIn (tgt := 615) (off := 582) hx hb dL_law_33 (by rw [c13]; decide +kernel) (by rw [c13]; decide +kernel) (by rw [c13]; decide +kernel) (by decide) ?_
    exact lkB_13 l hC hX hbl hbA hL3 hin hcz hsz hE h_n h_t h_nv h_tv h_nw h_tw h_zra h_zrb h_zrc h_zrd h_sra h_srb h_src h_srd h_f h_a h_i1 h_i2 h_rs h_rm h_tp h_tf h_tx h_fu h_fl h_z0 h_z1 h_sr h_mn h_m0 h_m1 h_r0 h_r1 h_r2 h_r3 V hl
  by_cases c14 : x = nI 14
  · refine lv_tableIn (tgt := 648) (off := 615) hx hb dL_law_33 (by rw [c14]; decide +kernel) (by rw [c14]; decide +kernel) (by rw [c14]; decide +kernel) (by decide) ?_
    exact lkB_14 l hC hX hbl hbA hL3 hin hcz hsz hE h_n h_t h_nv h_tv h_nw h_tw h_zra h_zrb h_zrc h_zrd h_sra h_srb h_src h_srd h_f h_a h_i1 h_i2 h_rs h_rm h_tp h_tf h_tx h_fu h_fl h_z0 h_z1 h_sr h_mn h_m0 h_m1 h_r0 h_r1 h_r2 h_r3 V hl
  by_cases c15 : x = nI 15
  · refine lv_tableIn (tgt := 671) (off := 638) hx hb dL_law_33 (by rw [c15]; decide +kernel) (by rw [c15]; decide +kernel) (by rw [c15]; decide +kernel) (by decide) ?_
    exact lkB_15 l hC hX hbl hbA hL3 hin hcz hsz hE h_n h_t h_nv h_tv h_nw h_tw h_zra h_zrb h_zrc h_zrd h_sra h_srb h_src h_srd h_f h_a h_i1 h_i2 h_rs h_rm h_tp h_tf h_tx h_fu h_fl h_z0 h_z1 h_sr h_mn h_m0 h_m1 h_r0 h_r1 h_r2 h_r3 V hl
  by_cases c16 : x = nI 16
  · refine lv_tableIn (tgt := 684) (off := 651) hx hb dL_law_33 (by rw [c16]; decide +kernel) (by rw [c16]; decide +kernel) (by rw [c16]; decide +kernel) (by decide) ?_
    exact lkB_16 l hC hX hbl hbA hL3 hin hcz hsz hE h_n h_t h_nv h_tv h_nw h_tw h_zra h_zrb h_zrc h_zrd h_sra h_srb h_src h_srd h_f h_a h_i1 h_i2 h_rs h_rm h_tp h_tf h_tx h_fu h_fl h_z0 h_z1 h_sr h_mn h_m0 h_m1 h_r0 h_r1 h_r2 h_r3 V hl
  by_cases c17 : x = nI 17
  · refine lv_tableIn (tgt := 717) (off := 684) hx hb dL_law_33 (by rw [c17]; decide +kernel) (by rw [c17]; decide +kernel) (by rw [c17]; decide +kernel) (by decide) ?_
    exact lkB_17 l hC hX hbl hbA hL3 hin hcz hsz hE h_n h_t h_nv h_tv h_nw h_tw h_zra h_zrb h_zrc h_zrd h_sra h_srb h_src h_srd h_f h_a h_i1 h_i2 h_rs h_rm h_tp h_tf h_tx h_fu h_fl h_z0 h_z1 h_sr h_mn h_m0 h_m1 h_r0 h_r1 h_r2 h_r3 V hl
  by_cases c18 : x = nI 18
  · refine lv_tableIn (tgt := 730) (off := 697) hx hb dL_law_33 (by rw [c18]; decide +kernel) (by rw [c18]; decide +kernel) (by rw [c18]; decide +kernel) (by decide) ?_
    exact lkB_18 l hC hX hbl hbA hL3 hin hcz hsz hE h_n h_t h_nv h_tv h_nw h_tw h_zra h_zrb h_zrc h_zrd h_sra h_srb h_src h_srd h_f h_a h_i1 h_i2 h_rs h_rm h_tp h_tf h_tx h_fu h_fl h_z0 h_z1 h_sr h_mn h_m0 h_m1 h_r0 h_r1 h_r2 h_r3 V hl
  by_cases c19 : x = nI 19
  · refine lv_tableIn (tgt := 773) (off := 740) hx hb dL_law_33 (by rw [c19]; decide +kernel) (by rw [c19]; decide +kernel) (by rw [c19]; decide +kernel) (by decide) ?_
    exact lkB_19 l hC hX hbl hbA hL3 hin hcz hsz hE h_n h_t h_nv h_tv h_nw h_tw h_zra h_zrb h_zrc h_zrd h_sra h_srb h_src h_srd h_f h_a h_i1 h_i2 h_rs h_rm h_tp h_tf h_tx h_fu h_fl h_z0 h_z1 h_sr h_mn h_m0 h_m1 h_r0 h_r1 h_r2 h_r3 V hl
  by_cases c20 : x = nI 20
  · refine lv_tableIn (tgt := 806) (off := 773) hx hb dL_law_33 (by rw [c20]; decide +kernel) (by rw [c20]; decide +kernel) (by rw [c20]; decide +kernel) (by decide) ?_
    exact lkB_20 l hC hX hbl hbA hL3 hin hcz hsz hE h_n h_t h_nv h_tv h_nw h_tw h_zra h_zrb h_zrc h_zrd h_sra h_srb h_src h_srd h_f h_a h_i1 h_i2 h_rs h_rm h_tp h_tf h_tx h_fu h_fl h_z0 h_z1 h_sr h_mn h_m0 h_m1 h_r0 h_r1 h_r2 h_r3 V hl
  by_cases c21 : x = nI 21
  · refine lv_tableIn (tgt := 839) (off := 806) hx hb dL_law_33 (by rw [c21]; decide +kernel) (by rw [c21]; decide +kernel) (by rw [c21]; decide +kernel) (by decide) ?_
    exact lkB_21 l hC hX hbl hbA hL3 hin hcz hsz hE h_n h_t h_nv h_tv h_nw h_tw h_zra h_zrb h_zrc h_zrd h_sra h_srb h_src h_srd h_f h_a h_i1 h_i2 h_rs h_rm h_tp h_tf h_tx h_fu h_fl h_z0 h_z1 h_sr h_mn h_m0 h_m1 h_r0 h_r1 h_r2 h_r3 V hl
  by_cases c22 : x = nI 22
  · refine lv_tableIn (tgt := 862) (off := 829) hx hb dL_law_33 (by rw [c22]; decide +kernel) (by rw [c22]; decide +kernel) (by rw [c22]; decide +kernel) (by decide) ?_
    exact lkB_22 l hC hX hbl hbA hL3 hin hcz hsz hE h_n h_t h_nv h_tv h_nw h_tw h_zra h_zrb h_zrc h_zrd h_sra h_srb h_src h_srd h_f h_a h_i1 h_i2 h_rs h_rm h_tp h_tf h_tx h_fu h_fl h_z0 h_z1 h_sr h_mn h_m0 h_m1 h_r0 h_r1 h_r2 h_r3 V hl
  by_cases c23 : x = nI 23
  · refine lv_tableIn (tgt := 895) (off := 862) hx hb dL_law_33 (by rw [c23]; decide +kernel) (by rw [c23]; decide +kernel) (by rw [c23]; decide +kernel) (by decide) ?_
    exact lkB_23 l hC hX hbl hbA hL3 hin hcz hsz hE h_n h_t h_nv h_tv h_nw h_tw h_zra h_zrb h_zrc h_zrd h_sra h_srb h_src h_srd h_f h_a h_i1 h_i2 h_rs h_rm h_tp h_tf h_tx h_fu h_fl h_z0 h_z1 h_sr h_mn h_m0 h_m1 h_r0 h_r1 h_r2 h_r3 V hl
  by_cases c24 : x = nI 24
  · refine lv_tableIn (tgt := 918) (off := 885) hx hb dL_law_33 (by rw [c24]; decide +kernel) (by rw [c24]; decide +kernel) (by rw [c24]; decide +kernel) (by decide) ?_
    exact lkB_24 l hC hX hbl hbA hL3 hin hcz hsz hE h_n h_t h_nv h_tv h_nw h_tw h_zra h_zrb h_zrc h_zrd h_sra h_srb h_src h_srd h_f h_a h_i1 h_i2 h_rs h_rm h_tp h_tf h_tx h_fu h_fl h_z0 h_z1 h_sr h_mn h_m0 h_m1 h_r0 h_r1 h_r2 h_r3 V hl
  by_cases c25 : x = nI 25
  · refine lv_tableIn (tgt := 941) (off := 908) hx hb dL_law_33 (by rw [c25]; decide +kernel) (by rw [c25]; decide +kernel) (by rw [c25]; decide +kernel) (by decide) ?_
    exact lkB_25 l hC hX hbl hbA hL3 hin hcz hsz hE h_n h_t h_nv h_tv h_nw h_tw h_zra h_zrb h_zrc h_zrd h_sra h_srb h_src h_srd h_f h_a h_i1 h_i2 h_rs h_rm h_tp h_tf h_tx h_fu h_fl h_z0 h_z1 h_sr h_mn h_m0 h_m1 h_r0 h_r1 h_r2 h_r3 V hl
  by_cases c26 : x = nI 26
  · refine lv_tableIn (tgt := 954) (off := 921) hx hb dL_law_33 (by rw [c26]; decide +kernel) (by rw [c26]; decide +kernel) (by rw [c26]; decide +kernel) (by decide) ?_
    exact lkB_26 l hC hX hbl hbA hL3 hin hcz hsz hE h_n h_t h_nv h_tv h_nw h_tw h_zra h_zrb h_zrc h_zrd h_sra h_srb h_src h_srd h_f h_a h_i1 h_i2 h_rs h_rm h_tp h_tf h_tx h_fu h_fl h_z0 h_z1 h_sr h_mn h_m0 h_m1 h_r0 h_r1 h_r2 h_r3 V hl
  by_cases c27 : x = nI 27
  · refine lv_tableIn (tgt := 977) (off := 944) hx hb dL_law_33 (by rw [c27]; decide +kernel) (by rw [c27]; decide +kernel) (by rw [c27]; decide +kernel) (by decide) ?_
    exact lkB_27 l hC hX hbl hbA hL3 hin hcz hsz hE h_n h_t h_nv h_tv h_nw h_tw h_zra h_zrb h_zrc h_zrd h_sra h_srb h_src h_srd h_f h_a h_i1 h_i2 h_rs h_rm h_tp h_tf h_tx h_fu h_fl h_z0 h_z1 h_sr h_mn h_m0 h_m1 h_r0 h_r1 h_r2 h_r3 V hl
  by_cases c28 : x = nI 28
  · refine lv_tableIn (tgt := 1026) (off := 993) hx hb dL_law_33 (by rw [c28]; decide +kernel) (by rw [c28]; decide +kernel) (by rw [c28]; decide +kernel) (by decide) ?_
    exact lkB_28 l hC hX hbl hbA hL3 hin hcz hsz hE h_n h_t h_nv h_tv h_nw h_tw h_zra h_zrb h_zrc h_zrd h_sra h_srb h_src h_srd h_f h_a h_i1 h_i2 h_rs h_rm h_tp h_tf h_tx h_fu h_fl h_z0 h_z1 h_sr h_mn h_m0 h_m1 h_r0 h_r1 h_r2 h_r3 V hl
  by_cases c29 : x = nI 29
  · refine lv_tableIn (tgt := 1049) (off := 1016) hx hb dL_law_33 (by rw [c29]; decide +kernel) (by rw [c29]; decide +kernel) (by rw [c29]; decide +kernel) (by decide) ?_
    exact lkB_29 l hC hX hbl hbA hL3 hin hcz hsz hE h_n h_t h_nv h_tv h_nw h_tw h_zra h_zrb h_zrc h_zrd h_sra h_srb h_src h_srd h_f h_a h_i1 h_i2 h_rs h_rm h_tp h_tf h_tx h_fu h_fl h_z0 h_z1 h_sr h_mn h_m0 h_m1 h_r0 h_r1 h_r2 h_r3 V hl
  by_cases c30 : x = nI 30
  · refine lv_tableIn (tgt := 1082) (off := 1049) hx hb dL_law_33 (by rw [c30]; decide +kernel) (by rw [c30]; decide +kernel) (by rw [c30]; decide +kernel) (by decide) ?_
    exact lkB_30 l hC hX hbl hbA hL3 hin hcz hsz hE h_n h_t h_nv h_tv h_nw h_tw h_zra h_zrb h_zrc h_zrd h_sra h_srb h_src h_srd h_f h_a h_i1 h_i2 h_rs h_rm h_tp h_tf h_tx h_fu h_fl h_z0 h_z1 h_sr h_mn h_m0 h_m1 h_r0 h_r1 h_r2 h_r3 V hl
  by_cases c31 : x = nI 31
  · refine lv_tableIn (tgt := 1125) (off := 1092) hx hb dL_law_33 (by rw [c31]; decide +kernel) (by rw [c31]; decide +kernel) (by rw [c31]; decide +kernel) (by decide) ?_
    exact lkB_31 l hC hX hbl hbA hL3 hin hcz hsz hE h_n h_t h_nv h_tv h_nw h_tw h_zra h_zrb h_zrc h_zrd h_sra h_srb h_src h_srd h_f h_a h_i1 h_i2 h_rs h_rm h_tp h_tf h_tx h_fu h_fl h_z0 h_z1 h_sr h_mn h_m0 h_m1 h_r0 h_r1 h_r2 h_r3 V hl
  by_cases c32 : x = nI 32
  · refine lv_tableIn (tgt := 1158) (off := 1125) hx hb dL_law_33 (by rw [c32]; decide +kernel) (by rw [c32]; decide +kernel) (by rw [c32]; decide +kernel) (by decide) ?_
    exact lkB_32 l hC hX hbl hbA hL3 hin hcz hsz hE h_n h_t h_nv h_tv h_nw h_tw h_zra h_zrb h_zrc h_zrd h_sra h_srb h_src h_srd h_f h_a h_i1 h_i2 h_rs h_rm h_tp h_tf h_tx h_fu h_fl h_z0 h_z1 h_sr h_mn h_m0 h_m1 h_r0 h_r1 h_r2 h_r3 V hl
  by_cases c33 : x = nI 33
  · refine lv_tableIn (tgt := 1191) (off := 1158) hx hb dL_law_33 (by rw [c33]; decide +kernel) (by rw [c33]; decide +kernel) (by rw [c33]; decide +kernel) (by decide) ?_
    exact lkB_33 l hC hX hbl hbA hL3 hin hcz hsz hE h_n h_t h_nv h_tv h_nw h_tw h_zra h_zrb h_zrc h_zrd h_sra h_srb h_src h_srd h_f h_a h_i1 h_i2 h_rs h_rm h_tp h_tf h_tx h_fu h_fl h_z0 h_z1 h_sr h_mn h_m0 h_m1 h_r0 h_r1 h_r2 h_r3 V hl
  by_cases c34 : x = nI 34
  · refine lv_tableIn (tgt := 1214) (off := 1181) hx hb dL_law_33 (by rw [c34]; decide +kernel) (by rw [c34]; decide +kernel) (by rw [c34]; decide +kernel) (by decide) ?_
    exact lkB_34 l hC hX hbl hbA hL3 hin hcz hsz hE h_n h_t h_nv h_tv h_nw h_tw h_zra h_zrb h_zrc h_zrd h_sra h_srb h_src h_srd h_f h_a h_i1 h_i2 h_rs h_rm h_tp h_tf h_tx h_fu h_fl h_z0 h_z1 h_sr h_mn h_m0 h_m1 h_r0 h_r1 h_r2 h_r3 V hl
  by_cases c35 : x = nI 35
  · refine lv_tableIn (tgt := 1247) (off := 1214) hx hb dL_law_33 (by rw [c35]; decide +kernel) (by rw [c35]; decide +kernel) (by rw [c35]; decide +kernel) (by decide) ?_
    exact lkB_35 l hC hX hbl hbA hL3 hin hcz hsz hE h_n h_t h_nv h_tv h_nw h_tw h_zra h_zrb h_zrc h_zrd h_sra h_srb h_src h_srd h_f h_a h_i1 h_i2 h_rs h_rm h_tp h_tf h_tx h_fu h_fl h_z0 h_z1 h_sr h_mn h_m0 h_m1 h_r0 h_r1 h_r2 h_r3 V hl
  by_cases c36 : x = nI 36
  · refine lv_tableIn (tgt := 1270) (off := 1237) hx hb dL_law_33 (by rw [c36]; decide +kernel) (by rw [c36]; decide +kernel) (by rw [c36]; decide +kernel) (by decide) ?_
    exact lkB_36 l hC hX hbl hbA hL3 hin hcz hsz hE h_n h_t h_nv h_tv h_nw h_tw h_zra h_zrb h_zrc h_zrd h_sra h_srb h_src h_srd h_f h_a h_i1 h_i2 h_rs h_rm h_tp h_tf h_tx h_fu h_fl h_z0 h_z1 h_sr h_mn h_m0 h_m1 h_r0 h_r1 h_r2 h_r3 V hl
  by_cases c37 : x = nI 37
  · refine lv_tableIn (tgt := 1313) (off := 1280) hx hb dL_law_33 (by rw [c37]; decide +kernel) (by rw [c37]; decide +kernel) (by rw [c37]; decide +kernel) (by decide) ?_
    exact lkB_37 l hC hX hbl hbA hL3 hin hcz hsz hE h_n h_t h_nv h_tv h_nw h_tw h_zra h_zrb h_zrc h_zrd h_sra h_srb h_src h_srd h_f h_a h_i1 h_i2 h_rs h_rm h_tp h_tf h_tx h_fu h_fl h_z0 h_z1 h_sr h_mn h_m0 h_m1 h_r0 h_r1 h_r2 h_r3 V hl
  by_cases c38 : x = nI 38
  · refine lv_tableIn (tgt := 1386) (off := 1353) hx hb dL_law_33 (by rw [c38]; decide +kernel) (by rw [c38]; decide +kernel) (by rw [c38]; decide +kernel) (by decide) ?_
    exact lkB_38 l hC hX hbl hbA hL3 hin hcz hsz hE h_n h_t h_nv h_tv h_nw h_tw h_zra h_zrb h_zrc h_zrd h_sra h_srb h_src h_srd h_f h_a h_i1 h_i2 h_rs h_rm h_tp h_tf h_tx h_fu h_fl h_z0 h_z1 h_sr h_mn h_m0 h_m1 h_r0 h_r1 h_r2 h_r3 V hl
  by_cases c39 : x = nI 39
  · refine lv_tableIn (tgt := 1409) (off := 1376) hx hb dL_law_33 (by rw [c39]; decide +kernel) (by rw [c39]; decide +kernel) (by rw [c39]; decide +kernel) (by decide) ?_
    exact lkB_39 l hC hX hbl hbA hL3 hin hcz hsz hE h_n h_t h_nv h_tv h_nw h_tw h_zra h_zrb h_zrc h_zrd h_sra h_srb h_src h_srd h_f h_a h_i1 h_i2 h_rs h_rm h_tp h_tf h_tx h_fu h_fl h_z0 h_z1 h_sr h_mn h_m0 h_m1 h_r0 h_r1 h_r2 h_r3 V hl
  by_cases c40 : x = nI 40
  · refine lv_tableIn (tgt := 1432) (off := 1399) hx hb dL_law_33 (by rw [c40]; decide +kernel) (by rw [c40]; decide +kernel) (by rw [c40]; decide +kernel) (by decide) ?_
    exact lkB_40 l hC hX hbl hbA hL3 hin hcz hsz hE h_n h_t h_nv h_tv h_nw h_tw h_zra h_zrb h_zrc h_zrd h_sra h_srb h_src h_srd h_f h_a h_i1 h_i2 h_rs h_rm h_tp h_tf h_tx h_fu h_fl h_z0 h_z1 h_sr h_mn h_m0 h_m1 h_r0 h_r1 h_r2 h_r3 V hl
  by_cases c41 : x = nI 41
  · refine lv_tableIn (tgt := 1455) (off := 1422) hx hb dL_law_33 (by rw [c41]; decide +kernel) (by rw [c41]; decide +kernel) (by rw [c41]; decide +kernel) (by decide) ?_
    exact lkB_41 l hC hX hbl hbA hL3 hin hcz hsz hE h_n h_t h_nv h_tv h_nw h_tw h_zra h_zrb h_zrc h_zrd h_sra h_srb h_src h_srd h_f h_a h_i1 h_i2 h_rs h_rm h_tp h_tf h_tx h_fu h_fl h_z0 h_z1 h_sr h_mn h_m0 h_m1 h_r0 h_r1 h_r2 h_r3 V hl
  refine lv_tableOut (tgt := 1478) hx hb dL_law_33 (g_out42 (fun j hj => ?_)) (by decide) ?_
  · exact (match j, hj with
    | 0, _ => c0
    | 1, _ => c1
    | 2, _ => c2
    | 3, _ => c3
    | 4, _ => c4
    | 5, _ => c5
    | 6, _ => c6
    | 7, _ => c7
    | 8, _ => c8
    | 9, _ => c9
    | 10, _ => c10
    | 11, _ => c11
    | 12, _ => c12
    | 13, _ => c13
    | 14, _ => c14
    | 15, _ => c15
    | 16, _ => c16
    | 17, _ => c17
    | 18, _ => c18
    | 19, _ => c19
    | 20, _ => c20
    | 21, _ => c21
    | 22, _ => c22
    | 23, _ => c23
    | 24, _ => c24
    | 25, _ => c25
    | 26, _ => c26
    | 27, _ => c27
    | 28, _ => c28
    | 29, _ => c29
    | 30, _ => c30
    | 31, _ => c31
    | 32, _ => c32
    | 33, _ => c33
    | 34, _ => c34
    | 35, _ => c35
    | 36, _ => c36
    | 37, _ => c37
    | 38, _ => c38
    | 39, _ => c39
    | 40, _ => c40
    | 41, _ => c41
    | j + 42, h => absurd h (by omega))
  · exact W.widen (by omega) (by omega) (hE _ _ _ (.inr (LwB_mk h_n h_t h_nv h_tv h_nw h_tw h_zra h_zrb h_zrc h_zrd h_sra h_srb h_src h_srd h_f h_a h_i1 h_i2 h_rs h_rm h_tp h_tf h_tx h_fu h_fl h_z0 h_z1 h_sr h_mn h_m0 h_m1 h_r0 h_r1 h_r2 h_r3 V)) hl)

set_option maxHeartbeats 4000000 in
set_option maxRecDepth 100000 in
theorem lw_sw {p : Program} {e : Env} {s : State} {m : MethodId} {args : Array Value} {below : List Frame} {meth : Method} {c : Code} {Q : State → Prop} (l : Launch) {b L t cz sz ox o : Nat} {xs : Nat → Int32} {D : va_G} {T : Nat → ClassId} {A : Nat → Prop} (hC : cX p s m args meth c RL cL_law 4 (some .boolean)) (hX : va_X b L xs s s.heap) (hbl : b < s.heap.size) (hbA : ¬ A b) (hL3 : L ≤ 3072) (hin : 6 * t + 6 ≤ L) (hcz : cz + 7 ≤ 600000) (hsz : sz + 11233 ≤ 7302250) (hE : ∀ (H : Heap) (locs : List Loc) (ls : Array Slot), (LwA D T A s ox o H locs ∨ LwB D T A s ox o H locs) → lv_has ls 4 [(3, .int (nI (6 * t))), (2, .ref o), (1, .ref ox), (0, .ref b)] → W p l e room_1 s m args below meth c H locs (cz + 7) (sz + 11233) Q (F0 m 1478 ls [])) {H : Heap} {locs : List Loc} {ls : Array Slot} (hW : LwA D T A s ox o H locs ∨ LwB D T A s ox o H locs) (hl : lv_has ls 4 [(3, .int (nI (6 * t))), (2, .ref o), (1, .ref ox), (0, .ref b)]) {x : Int32} : W p l e room_1 s m args below meth c H locs cz sz Q (F0 m 33 ls [.int x]) := by
  rcases hW with hW | hW
  · refine hW _ ?_
    intro n0 s0 im iz rw t0 u0 h0 y0 nn nm nl no nu n1 n2 n3 n4 n5 n6 n7 n8 n9 n10 nf1 nf2 nf3 nf4 nf5 nf6 nf7 nf8 nf9 nf10 sn sm sl so su s1 s2 s3 s4 s5 s6 s7 s8 s9 s10 sf1 sf2 sf3 sf4 sf5 sf6 sf7 sf8 sf9 sf10 v0 w0 fz ra0 rb0 rc0 rd0 rah raz ra1 ras raf rbh rbz rb1 rbs rbf rch rcz rc1 rcs rcf rdh rdz rd1 rds rdf tf tu tl t1 te tk tr tb tx uk1 uk2 uk3 h1 qx qy ql h2 h3 qb qp qc ys y1 y2 yb yt vn vm vl vo vu v1 v2 v3 v4 v5 v6 v7 v8 v9 v10 vf1 vf2 vf3 vf4 vf5 vf6 vf7 vf8 vf9 vf10 wn wm wl wo wu w1 w2 w3 w4 w5 w6 w7 w8 w9 w10 wf1 wf2 wf3 wf4 wf5 wf6 wf7 wf8 wf9 wf10 kw0 g1 g2 g3 g4 tp kw6 kw7 kw8 kw9 kw10 kw11 kw12 kw13 kw14 g15 kw16 g17 kw18 kw19 g20 kw21 g22 g23 g24 kw25 kw26 kw27 g28 g29 kw30 g31 g32 g33 fa fi_ ft ff fh fk fr fb fs fc fo fp fq fm fn nI1 nI2 h_n h_t h_nv h_tv h_nw h_tw h_zra h_zrb h_zrc h_zrd h_sra h_srb h_src h_srd h_f h_a h_i1 h_i2 h_rs h_rm h_tp h_tf h_tx h_fu h_fl h_z0 h_z1 h_sr h_mn h_m0 h_m1 h_r0 h_r1 h_r2 h_r3 V
    exact lw_swA l hC hX hbl hbA hL3 hin hcz hsz hE h_n h_t h_nv h_tv h_nw h_tw h_zra h_zrb h_zrc h_zrd h_sra h_srb h_src h_srd h_f h_a h_i1 h_i2 h_rs h_rm h_tp h_tf h_tx h_fu h_fl h_z0 h_z1 h_sr h_mn h_m0 h_m1 h_r0 h_r1 h_r2 h_r3 V hl
  · refine hW _ ?_
    intro n0 s0 im iz rw t0 u0 h0 y0 e0 nn nm nl no nu n1 n2 n3 n4 n5 n6 n7 n8 n9 n10 nf1 nf2 nf3 nf4 nf5 nf6 nf7 nf8 nf9 nf10 sn sm sl so su s1 s2 s3 s4 s5 s6 s7 s8 s9 s10 sf1 sf2 sf3 sf4 sf5 sf6 sf7 sf8 sf9 sf10 v0 w0 fz ra0 rb0 rc0 rd0 rah raz ra1 ras raf rbh rbz rb1 rbs rbf rch rcz rc1 rcs rcf rdh rdz rd1 rds rdf tf tu tl t1 te tk tr tb tx uk1 uk2 uk3 h1 qx qy ql h2 h3 qb qp qc ys y1 y2 yb yt vn vm vl vo vu v1 v2 v3 v4 v5 v6 v7 v8 v9 v10 vf1 vf2 vf3 vf4 vf5 vf6 vf7 vf8 vf9 vf10 wn wm wl wo wu w1 w2 w3 w4 w5 w6 w7 w8 w9 w10 wf1 wf2 wf3 wf4 wf5 wf6 wf7 wf8 wf9 wf10 kw0 g1 g2 g3 g4 tp kw6 kw7 kw8 kw9 kw10 kw11 kw12 kw13 kw14 g15 kw16 g17 kw18 kw19 g20 kw21 g22 g23 g24 kw25 kw26 kw27 g28 g29 kw30 g31 g32 g33 fa fi_ ft ff fh fk fr fb fs fc fo fp fq fm fn e1 e2 em e3 e4 e5 e6 ea eb ec ed ee ef nI1 nI2 h_n h_t h_nv h_tv h_nw h_tw h_zra h_zrb h_zrc h_zrd h_sra h_srb h_src h_srd h_f h_a h_i1 h_i2 h_rs h_rm h_tp h_tf h_tx h_fu h_fl h_z0 h_z1 h_sr h_mn h_m0 h_m1 h_r0 h_r1 h_r2 h_r3 V
    exact lw_swB l hC hX hbl hbA hL3 hin hcz hsz hE h_n h_t h_nv h_tv h_nw h_tw h_zra h_zrb h_zrc h_zrd h_sra h_srb h_src h_srd h_f h_a h_i1 h_i2 h_rs h_rm h_tp h_tf h_tx h_fu h_fl h_z0 h_z1 h_sr h_mn h_m0 h_m1 h_r0 h_r1 h_r2 h_r3 V hl
