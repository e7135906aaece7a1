def q_e_minutes_f (T : Nat → ClassId) (fa : Nat → Int32) (e0 : Nat) (a0 : Nat) (e1 : Nat) (e2 : Nat) (em : Int32) (e3 : Nat) (e4 : Nat) (e5 : Nat) (e6 : Nat) (ea : Nat → Int64) (eb : Nat → Int32) (ec : Nat → Int32) (ed : Nat → Int32) (ee : Nat → Int32) (ef : Nat → Int32) (an : Nat) (am : Int32) (al : Int32) (ao : Int32) (au : Int32) (a1 : Nat) (a2 : Nat) (a3 : Nat) (a4 : Nat) (a5 : Nat) (a6 : Nat) (a7 : Nat) (a8 : Nat) (a9 : Nat) (a10 : Nat) (af1 : Nat → Int32) (af2 : Nat → Int32) (af3 : Nat → Int32) (af4 : Nat → Int32) (af5 : Nat → Int32) (af6 : Nat → Int32) (af7 : Nat → Int32) (af9 : Nat → Int32) : Option Value → va_W → Prop := fun rr ww => (∃ (z : Int32) (em2 : Nat) (g1 : Nat → Int64) (g2 : Nat → Int32) (gc : Nat → Int32) (gd : Nat → Int32) (ge : Nat → Int32) (gf : Nat → Int32), rr = some (.int z) ∧ ww = [(e0, .inr (4, [.ref e1, .ref e2, .int (nI em2), .ref e3, .ref e4, .ref e5, .ref e6])), (e1, .inl (T 1, 3001, .inr (.inl g1))), (e2, .inl (T 0, 8192, .inl g2)), (e3, .inl (T 0, 3, .inl gc)), (e4, .inl (T 0, 3, .inl gd)), (e5, .inl (T 0, 3, .inl ge)), (e6, .inl (T 0, 24, .inl gf)), (a0, .inr (5, [.int (nI an), .int am, .int al, .int ao, .int au, .ref a1, .ref a2, .ref a3, .ref a4, .ref a5, .ref a6, .ref a7, .ref a8, .ref a9, .ref a10])), (a1, .inl (T 0, 10, .inl af1)), (a2, .inl (T 0, 10, .inl af2)), (a3, .inl (T 0, 10, .inl af3)), (a4, .inl (T 0, 10, .inl af4)), (a5, .inl (T 0, 10, .inl af5)), (a6, .inl (T 0, 10, .inl af6)), (a7, .inl (T 0, 10, .inl af7)), (a9, .inl (T 0, 10, .inl af9))] ∧ z = bfs (scC an fa) (enB an fa) 3001 1 [prS an fa] 0 ∧ em2 ≤ 3001)
set_option maxHeartbeats 4000000 in
set_option maxRecDepth 100000 in
theorem e_minutes_f (l : Launch) (D : va_G) (T : Nat → ClassId) (fa : Nat → Int32) (e0 : Nat) (a0 : Nat) (e1 : Nat) (e2 : Nat) (em : Int32) (e3 : Nat) (e4 : Nat) (e5 : Nat) (e6 : Nat) (ea : Nat → Int64) (eb : Nat → Int32) (ec : Nat → Int32) (ed : Nat → Int32) (ee : Nat → Int32) (ef : Nat → Int32) (an : Nat) (am : Int32) (al : Int32) (ao : Int32) (au : Int32) (a1 : Nat) (a2 : Nat) (a3 : Nat) (a4 : Nat) (a5 : Nat) (a6 : Nat) (a7 : Nat) (a8 : Nat) (a9 : Nat) (a10 : Nat) (af1 : Nat → Int32) (af2 : Nat → Int32) (af3 : Nat → Int32) (af4 : Nat → Int32) (af5 : Nat → Int32) (af6 : Nat → Int32) (af7 : Nat → Int32) (af9 : Nat → Int32) (h_n : an ≤ 3) (h_a : MI an fa) (h_o : ao = fa 2) (h_s1 : ∀ i, i < an → af1 i = fa (4 + i)) (h_s2 : ∀ i, i < an → af2 i = fa (14 + i)) (h_s3 : ∀ i, i < an → af3 i = fa (24 + i)) (h_s4 : ∀ i, i < an → af4 i = fa (34 + i)) (h_s5 : ∀ i, i < an → af5 i = fa (44 + i)) (h_s6 : ∀ i, i < an → af6 i = fa (54 + i)) (h_s7 : ∀ i, i < an → af7 i = fa (64 + i)) (h_s9 : ∀ i, i < an → af9 i = fa (84 + i)) : Ct l yX4_minutesToEnd cX4_minutesToEnd 6 (some .int) 3 0 0 D T [.ref e0, .ref a0] [(e0, .inr (4, [.ref e1, .ref e2, .int em, .ref e3, .ref e4, .ref e5, .ref e6])), (e1, .inl (T 1, 3001, .inr (.inl ea))), (e2, .inl (T 0, 8192, .inl eb)), (e3, .inl (T 0, 3, .inl ec)), (e4, .inl (T 0, 3, .inl ed)), (e5, .inl (T 0, 3, .inl ee)), (e6, .inl (T 0, 24, .inl ef)), (a0, .inr (5, [.int (nI an), .int am, .int al, .int ao, .int au, .ref a1, .ref a2, .ref a3, .ref a4, .ref a5, .ref a6, .ref a7, .ref a8, .ref a9, .ref a10])), (a1, .inl (T 0, 10, .inl af1)), (a2, .inl (T 0, 10, .inl af2)), (a3, .inl (T 0, 10, .inl af3)), (a4, .inl (T 0, 10, .inl af4)), (a5, .inl (T 0, 10, .inl af5)), (a6, .inl (T 0, 10, .inl af6)), (a7, .inl (T 0, 10, .inl af7)), (a9, .inl (T 0, 10, .inl af9))] (q_e_minutes_f T fa e0 a0 e1 e2 em e3 e4 e5 e6 ea eb ec ed ee ef an am al ao au a1 a2 a3 a4 a5 a6 a7 a8 a9 a10 af1 af2 af3 af4 af5 af6 af7 af9) := by
  refine Ct.of (cc := cX4_minutesToEnd) (maxL := 6) (ret := (some .int)) (by decide) (Nat.le_of_ble_eq_true rfl) ?_
  intro p e s m args below meth c A ls hC hnm V hl
  obtain ⟨hx, hb, hr, hml, hown, hts, hlocks⟩ := id hC
  generalize hH : s.heap = H at V ⊢
  clear hH
  have hl : lv_has ls 6 [(0, .ref e0), (1, .ref a0)] := hl
  generalize hlo : ([] : List Loc) = locs at V ⊢
  clear hlo
  refine lv_aload_n hx hb dX4_minutesToEnd_0 rfl (lv_at hl 0 rfl) ?_
  refine g_get hC V (ci := 4) uwX4 0 rfl rfl 1 (by decide) w_714 rfl rfl dX4_minutesToEnd_1 ?_
  refine lv_iconst (v := (nI 0)) hx hb dX4_minutesToEnd_4 (by decide +kernel) ?_
  refine g_callSU (nA := 2) hC V hl.1 (e_fill l D T e2 (nI 0) eb) w_739 w_307 w_11 w_308 (by decide +kernel) rfl ⟨(Nat.le_of_ble_eq_true rfl), (Nat.le_of_ble_eq_true rfl)⟩ [2] rfl rfl (Nat.le_of_ble_eq_true rfl) dX4_minutesToEnd_5 ⟨(Nat.le_of_ble_eq_true rfl), (Nat.le_of_ble_eq_true rfl)⟩ rfl (fun r w1 H locs hQ V => ?_)
  obtain ⟨g_1, rfl, rfl, f_2⟩ := hQ
  have V : gW D T A s [(e0, .inr (4, [.ref e1, .ref e2, .int em, .ref e3, .ref e4, .ref e5, .ref e6])), (e1, .inl (T 1, 3001, .inr (.inl ea))), (e2, .inl (T 0, 8192, .inl g_1)), (e3, .inl (T 0, 3, .inl ec)), (e4, .inl (T 0, 3, .inl ed)), (e5, .inl (T 0, 3, .inl ee)), (e6, .inl (T 0, 24, .inl ef)), (a0, .inr (5, [.int (nI an), .int am, .int al, .int ao, .int au, .ref a1, .ref a2, .ref a3, .ref a4, .ref a5, .ref a6, .ref a7, .ref a8, .ref a9, .ref a10])), (a1, .inl (T 0, 10, .inl af1)), (a2, .inl (T 0, 10, .inl af2)), (a3, .inl (T 0, 10, .inl af3)), (a4, .inl (T 0, 10, .inl af4)), (a5, .inl (T 0, 10, .inl af5)), (a6, .inl (T 0, 10, .inl af6)), (a7, .inl (T 0, 10, .inl af7)), (a9, .inl (T 0, 10, .inl af9))] H locs := V _ [2] rfl rfl rfl (by decide +kernel) rfl
  show W p l e _ s m args below meth c H locs _ _ _ (F0 m 8 ls [])
  refine lv_aload_n hx hb dX4_minutesToEnd_8 rfl (lv_at hl 0 rfl) ?_
  refine lv_iconst (v := (nI 0)) hx hb dX4_minutesToEnd_9 (by decide +kernel) ?_
  refine g_put hC V (ci := 4) uwX4 tyX4 tyX4_ok nmX4 0 rfl rfl 2 (by decide) w_715 rfl rfl rfl rfl (Nat.le_of_ble_eq_true rfl) (ws' := [(e0, .inr (4, [.ref e1, .ref e2, .int (nI 0), .ref e3, .ref e4, .ref e5, .ref e6])), (e1, .inl (T 1, 3001, .inr (.inl ea))), (e2, .inl (T 0, 8192, .inl g_1)), (e3, .inl (T 0, 3, .inl ec)), (e4, .inl (T 0, 3, .inl ed)), (e5, .inl (T 0, 3, .inl ee)), (e6, .inl (T 0, 24, .inl ef)), (a0, .inr (5, [.int (nI an), .int am, .int al, .int ao, .int au, .ref a1, .ref a2, .ref a3, .ref a4, .ref a5, .ref a6, .ref a7, .ref a8, .ref a9, .ref a10])), (a1, .inl (T 0, 10, .inl af1)), (a2, .inl (T 0, 10, .inl af2)), (a3, .inl (T 0, 10, .inl af3)), (a4, .inl (T 0, 10, .inl af4)), (a5, .inl (T 0, 10, .inl af5)), (a6, .inl (T 0, 10, .inl af6)), (a7, .inl (T 0, 10, .inl af7)), (a9, .inl (T 0, 10, .inl af9))]) rfl dX4_minutesToEnd_10 (fun H locs V => ?_)
  refine lv_aload_n hx hb dX4_minutesToEnd_13 rfl (lv_at hl 0 rfl) ?_
  refine lv_aload_n hx hb dX4_minutesToEnd_14 rfl (lv_at hl 1 rfl) ?_
  refine g_callVU (nA := 1) hC V hl.1 (e_weigh_f l D T fa e0 a0 e1 e2 0 e3 e4 e5 e6 ef an am al ao au a1 a2 a3 a4 a5 a6 a7 a8 a9 a10 af1 af2 af9 (by first | assumption | omega) (by first | assumption | omega) (by first | assumption | omega) (by first | assumption | omega)) w_740 w_742 w_s23 w_18 w_743 (by decide +kernel) rfl ⟨(Nat.le_of_ble_eq_true rfl), (Nat.le_of_ble_eq_true rfl)⟩ 0 (ci := 4) rfl rfl [0, 6, 7, 8, 9, 15] rfl rfl (Nat.le_of_ble_eq_true rfl) dX4_minutesToEnd_15 ⟨(Nat.le_of_ble_eq_true rfl), (Nat.le_of_ble_eq_true rfl)⟩ rfl (fun r w1 H locs hQ V => ?_)
  obtain ⟨g_3, rfl, rfl, f_4⟩ := hQ
  have V : gW D T A s [(e0, .inr (4, [.ref e1, .ref e2, .int (nI 0), .ref e3, .ref e4, .ref e5, .ref e6])), (e1, .inl (T 1, 3001, .inr (.inl ea))), (e2, .inl (T 0, 8192, .inl g_1)), (e3, .inl (T 0, 3, .inl ec)), (e4, .inl (T 0, 3, .inl ed)), (e5, .inl (T 0, 3, .inl ee)), (e6, .inl (T 0, 24, .inl g_3)), (a0, .inr (5, [.int (nI an), .int am, .int al, .int ao, .int au, .ref a1, .ref a2, .ref a3, .ref a4, .ref a5, .ref a6, .ref a7, .ref a8, .ref a9, .ref a10])), (a1, .inl (T 0, 10, .inl af1)), (a2, .inl (T 0, 10, .inl af2)), (a3, .inl (T 0, 10, .inl af3)), (a4, .inl (T 0, 10, .inl af4)), (a5, .inl (T 0, 10, .inl af5)), (a6, .inl (T 0, 10, .inl af6)), (a7, .inl (T 0, 10, .inl af7)), (a9, .inl (T 0, 10, .inl af9))] H locs := V _ [0, 5, 0, 0, 0, 5] rfl rfl rfl (by decide +kernel) rfl
  show W p l e _ s m args below meth c H locs _ _ _ (F0 m 18 ls [])
  have hch := f_4
  refine lv_aload_n hx hb dX4_minutesToEnd_18 rfl (lv_at hl 0 rfl) ?_
  refine lv_aload_n hx hb dX4_minutesToEnd_19 rfl (lv_at hl 1 rfl) ?_
  refine g_callVU (nA := 1) hC V hl.1 (e_meetPresent_f l D T fa ([]) e0 a0 e1 e2 0 e3 e4 e5 e6 ea g_1 an am al ao au a1 a2 a3 a4 a5 a6 a7 a8 a9 a10 af3 af6 af7 (by first | assumption | omega) h_a (ht_0 f_2) (by first | assumption | omega) (by first | assumption | omega) (by first | assumption | omega)) w_746 w_748 w_s24 w_18 w_749 (by decide +kernel) rfl ⟨(Nat.le_of_ble_eq_true rfl), (Nat.le_of_ble_eq_true rfl)⟩ 0 (ci := 4) rfl rfl [0, 1, 2, 7, 10, 13, 14] rfl rfl (Nat.le_of_ble_eq_true rfl) dX4_minutesToEnd_20 ⟨(Nat.le_of_ble_eq_true rfl), (Nat.le_of_ble_eq_true rfl)⟩ rfl (fun r w1 H locs hQ V => ?_)
  obtain ⟨mp, ga_, gb_, rfl, rfl, f_5⟩ := hQ
  have V : gW D T A s [(e0, .inr (4, [.ref e1, .ref e2, .int (nI mp), .ref e3, .ref e4, .ref e5, .ref e6])), (e1, .inl (T 1, 3001, .inr (.inl ga_))), (e2, .inl (T 0, 8192, .inl gb_)), (e3, .inl (T 0, 3, .inl ec)), (e4, .inl (T 0, 3, .inl ed)), (e5, .inl (T 0, 3, .inl ee)), (e6, .inl (T 0, 24, .inl g_3)), (a0, .inr (5, [.int (nI an), .int am, .int al, .int ao, .int au, .ref a1, .ref a2, .ref a3, .ref a4, .ref a5, .ref a6, .ref a7, .ref a8, .ref a9, .ref a10])), (a1, .inl (T 0, 10, .inl af1)), (a2, .inl (T 0, 10, .inl af2)), (a3, .inl (T 0, 10, .inl af3)), (a4, .inl (T 0, 10, .inl af4)), (a5, .inl (T 0, 10, .inl af5)), (a6, .inl (T 0, 10, .inl af6)), (a7, .inl (T 0, 10, .inl af7)), (a9, .inl (T 0, 10, .inl af9))] H locs := V _ [0, 0, 0, 4, 2, 2, 0] rfl rfl rfl (by decide +kernel) rfl
  show W p l e _ s m args below meth c H locs _ _ _ (F0 m 23 ls [])
  have h0 : HT (VS an) cC hsC [prS an fa] mp ga_ gb_ := by have q := f_5; rw [inz_0] at q; exact q
  have h01 : mp = 1 := h0.1.symm
  refine lv_iconst (v := (nI 0)) hx hb dX4_minutesToEnd_23 (by decide +kernel) ?_
  refine lv_istore_n (lv' := [(2, .int (nI 0)), (0, .ref e0), (1, .ref a0)]) hx hb dX4_minutesToEnd_24 rfl hl (by decide) rfl (fun ls hl => ?_)
  refine lv_iconst (v := (nI 1)) hx hb dX4_minutesToEnd_25 (by decide +kernel) ?_
  refine lv_istore_n (lv' := [(3, .int (nI 1)), (2, .int (nI 0)), (0, .ref e0), (1, .ref a0)]) hx hb dX4_minutesToEnd_26 rfl hl (by decide) rfl (fun ls hl => ?_)
  have L_6 : ∀ (fu : Nat) (kk : Nat) (fst : Nat) (mt : Nat) (sa : Nat → Int64) (sb : Nat → Int32) (sc_ : Nat → Int32) (sd : Nat → Int32) (se : Nat → Int32) (vv : List (List Nat)), kk ≤ 3002 → HT (VS an) cC hsC vv mt sa sb → fst ≤ mt → 1 ≤ kk → kk ≤ mt → mt ≤ 3000 → bfs (scC an fa) (enB an fa) 3001 1 [prS an fa] 0 = bfs (scC an fa) (enB an fa) (3002 - kk) kk vv fst → 3002 - kk < fu → ∀ (H : Heap) (locs : List Loc) (ls : Array Slot), gW D T A s [(e0, .inr (4, [.ref e1, .ref e2, .int (nI mt), .ref e3, .ref e4, .ref e5, .ref e6])), (e1, .inl (T 1, 3001, .inr (.inl sa))), (e2, .inl (T 0, 8192, .inl sb)), (e3, .inl (T 0, 3, .inl sc_)), (e4, .inl (T 0, 3, .inl sd)), (e5, .inl (T 0, 3, .inl se)), (e6, .inl (T 0, 24, .inl g_3)), (a0, .inr (5, [.int (nI an), .int am, .int al, .int ao, .int au, .ref a1, .ref a2, .ref a3, .ref a4, .ref a5, .ref a6, .ref a7, .ref a8, .ref a9, .ref a10])), (a1, .inl (T 0, 10, .inl af1)), (a2, .inl (T 0, 10, .inl af2)), (a3, .inl (T 0, 10, .inl af3)), (a4, .inl (T 0, 10, .inl af4)), (a5, .inl (T 0, 10, .inl af5)), (a6, .inl (T 0, 10, .inl af6)), (a7, .inl (T 0, 10, .inl af7)), (a9, .inl (T 0, 10, .inl af9))] H locs → lv_has ls 6 [(3, .int (nI kk)), (2, .int (nI fst)), (0, .ref e0), (1, .ref a0)] → W p l e (rmD 3 0 0) s m args below meth c H locs 0 0 (MQ below (gQ D A (q_e_minutes_f T fa e0 a0 e1 e2 em e3 e4 e5 e6 ea eb ec ed ee ef an am al ao au a1 a2 a3 a4 a5 a6 a7 a8 a9 a10 af1 af2 af3 af4 af5 af6 af7 af9)) args s 0 0 A) (F0 m 27 ls []) := by
    intro fu_27
    induction fu_27 with
    | zero => intro kk fst mt sa sb sc_ sd se vv hkk hht hfs hk1 hkm hm3 hbf hmu; exact absurd hmu (Nat.not_lt_zero _)
    | succ fu_27 ih_27 =>
      intro kk fst mt sa sb sc_ sd se vv hkk hht hfs hk1 hkm hm3 hbf hmu_27 H locs ls V hl
      refine lv_iload_n hx hb dX4_minutesToEnd_27 rfl (lv_at hl 0 rfl) ?_
      refine lv_sipush (v := (nI 3001)) hx hb dX4_minutesToEnd_28 (by decide +kernel) ?_
      refine lv_icmp_gt (tgt := 144) hx hb dX4_minutesToEnd_31 (by decide) (fun c_7 => ?_) (fun c_7 => ?_)
      · skip
        have c_7 := b_lt (by omega) (by omega) c_7
        exact (by omega : False).elim
      · skip
        have c_7 := b_nlt (by omega) (by omega) c_7
        refine lv_aload_n hx hb dX4_minutesToEnd_34 rfl (lv_at hl 2 rfl) ?_
        refine g_get hC V (ci := 4) uwX4 0 rfl rfl 2 (by decide) w_715 rfl rfl dX4_minutesToEnd_35 ?_
        refine lv_istore (lv' := [(4, .int (nI mt)), (3, .int (nI kk)), (2, .int (nI fst)), (0, .ref e0), (1, .ref a0)]) hx hb dX4_minutesToEnd_38 hl (by decide) rfl (fun ls hl => ?_)
        refine lv_iload_n hx hb dX4_minutesToEnd_40 rfl (lv_at hl 2 rfl) ?_
        refine lv_istore (lv' := [(5, .int (nI fst)), (4, .int (nI mt)), (3, .int (nI kk)), (2, .int (nI fst)), (0, .ref e0), (1, .ref a0)]) hx hb dX4_minutesToEnd_41 hl (by decide) rfl (fun ls hl => ?_)
        have L_8 : ∀ (fu : Nat) (ka : Nat) (sc2 : Nat → Int32) (sd2 : Nat → Int32), ka ≤ mt → fst ≤ ka → anyN (enB an fa) vv fst ka → mt - ka < fu → ∀ (H : Heap) (locs : List Loc) (ls : Array Slot), gW D T A s [(e0, .inr (4, [.ref e1, .ref e2, .int (nI mt), .ref e3, .ref e4, .ref e5, .ref e6])), (e1, .inl (T 1, 3001, .inr (.inl sa))), (e2, .inl (T 0, 8192, .inl sb)), (e3, .inl (T 0, 3, .inl sc2)), (e4, .inl (T 0, 3, .inl sd2)), (e5, .inl (T 0, 3, .inl se)), (e6, .inl (T 0, 24, .inl g_3)), (a0, .inr (5, [.int (nI an), .int am, .int al, .int ao, .int au, .ref a1, .ref a2, .ref a3, .ref a4, .ref a5, .ref a6, .ref a7, .ref a8, .ref a9, .ref a10])), (a1, .inl (T 0, 10, .inl af1)), (a2, .inl (T 0, 10, .inl af2)), (a3, .inl (T 0, 10, .inl af3)), (a4, .inl (T 0, 10, .inl af4)), (a5, .inl (T 0, 10, .inl af5)), (a6, .inl (T 0, 10, .inl af6)), (a7, .inl (T 0, 10, .inl af7)), (a9, .inl (T 0, 10, .inl af9))] H locs → lv_has ls 6 [(5, .int (nI ka)), (4, .int (nI mt)), (3, .int (nI kk)), (2, .int (nI fst)), (0, .ref e0), (1, .ref a0)] → W p l e (rmD 3 0 0) s m args below meth c H locs 0 0 (MQ below (gQ D A (q_e_minutes_f T fa e0 a0 e1 e2 em e3 e4 e5 e6 ea eb ec ed ee ef an am al ao au a1 a2 a3 a4 a5 a6 a7 a8 a9 a10 af1 af2 af3 af4 af5 af6 af7 af9)) args s 0 0 A) (F0 m 43 ls []) := by
          intro fu_43
          induction fu_43 with
          | zero => intro ka sc2 sd2 hka hfa hne hmu; exact absurd hmu (Nat.not_lt_zero _)
          | succ fu_43 ih_43 =>
            intro ka sc2 sd2 hka hfa hne hmu_43 H locs ls V hl
            refine lv_iload hx hb dX4_minutesToEnd_43 (lv_at hl 0 rfl) ?_
            refine lv_iload hx hb dX4_minutesToEnd_45 (lv_at hl 1 rfl) ?_
            refine lv_icmp_ge (tgt := 73) hx hb dX4_minutesToEnd_47 (by decide) (fun c_9 => ?_) (fun c_9 => ?_)
            · skip
              have c_9 := b_le (by omega) (by omega) c_9
              have hany := an_e hne (show ka = vv.length by rw [hht.1]; omega)
              refine lv_iload_n hx hb dX4_minutesToEnd_73 rfl (lv_at hl 3 rfl) ?_
              refine lv_istore (lv' := [(5, .int (nI fst)), (4, .int (nI mt)), (3, .int (nI kk)), (2, .int (nI fst)), (0, .ref e0), (1, .ref a0)]) hx hb dX4_minutesToEnd_74 hl (by decide) rfl (fun ls hl => ?_)
              have L_10 : ∀ (fu : Nat) (kb : Nat) (mu : Nat) (sa3 : Nat → Int64) (sb3 : Nat → Int32) (sc3 : Nat → Int32) (sd3 : Nat → Int32) (se3 : Nat → Int32), kb ≤ mt → fst ≤ kb → HT (VS an) cC hsC (inA vv ((lvT vv fst kb).flatMap (scC an fa))) mu sa3 sb3 → mt - kb < fu → ∀ (H : Heap) (locs : List Loc) (ls : Array Slot), gW D T A s [(e0, .inr (4, [.ref e1, .ref e2, .int (nI mu), .ref e3, .ref e4, .ref e5, .ref e6])), (e1, .inl (T 1, 3001, .inr (.inl sa3))), (e2, .inl (T 0, 8192, .inl sb3)), (e3, .inl (T 0, 3, .inl sc3)), (e4, .inl (T 0, 3, .inl sd3)), (e5, .inl (T 0, 3, .inl se3)), (e6, .inl (T 0, 24, .inl g_3)), (a0, .inr (5, [.int (nI an), .int am, .int al, .int ao, .int au, .ref a1, .ref a2, .ref a3, .ref a4, .ref a5, .ref a6, .ref a7, .ref a8, .ref a9, .ref a10])), (a1, .inl (T 0, 10, .inl af1)), (a2, .inl (T 0, 10, .inl af2)), (a3, .inl (T 0, 10, .inl af3)), (a4, .inl (T 0, 10, .inl af4)), (a5, .inl (T 0, 10, .inl af5)), (a6, .inl (T 0, 10, .inl af6)), (a7, .inl (T 0, 10, .inl af7)), (a9, .inl (T 0, 10, .inl af9))] H locs → lv_has ls 6 [(5, .int (nI kb)), (4, .int (nI mt)), (3, .int (nI kk)), (2, .int (nI fst)), (0, .ref e0), (1, .ref a0)] → W p l e (rmD 3 0 0) s m args below meth c H locs 0 0 (MQ below (gQ D A (q_e_minutes_f T fa e0 a0 e1 e2 em e3 e4 e5 e6 ea eb ec ed ee ef an am al ao au a1 a2 a3 a4 a5 a6 a7 a8 a9 a10 af1 af2 af3 af4 af5 af6 af7 af9)) args s 0 0 A) (F0 m 76 ls []) := by
                intro fu_76
                induction fu_76 with
                | zero => intro kb mu sa3 sb3 sc3 sd3 se3 hkb hfb hhu hmu; exact absurd hmu (Nat.not_lt_zero _)
                | succ fu_76 ih_76 =>
                  intro kb mu sa3 sb3 sc3 sd3 se3 hkb hfb hhu hmu_76 H locs ls V hl
                  have hmu1 := hhu.2.1
                  refine lv_iload hx hb dX4_minutesToEnd_76 (lv_at hl 0 rfl) ?_
                  refine lv_iload hx hb dX4_minutesToEnd_78 (lv_at hl 1 rfl) ?_
                  refine lv_icmp_ge (tgt := 111) hx hb dX4_minutesToEnd_80 (by decide) (fun c_11 => ?_) (fun c_11 => ?_)
                  · skip
                    have c_11 := b_le (by omega) (by omega) c_11
                    have hmu := hv_l hht hhu
                    refine lv_aload_n hx hb dX4_minutesToEnd_111 rfl (lv_at hl 4 rfl) ?_
                    refine g_get hC V (ci := 4) uwX4 0 rfl rfl 2 (by decide) w_715 rfl rfl dX4_minutesToEnd_112 ?_
                    refine lv_sipush (v := (nI 3000)) hx hb dX4_minutesToEnd_115 (by decide +kernel) ?_
                    refine lv_icmp_le (tgt := 124) hx hb dX4_minutesToEnd_118 (by decide) (fun c_12 => ?_) (fun c_12 => ?_)
                    · skip
                      have c_12 := b_le (by omega) (by omega) c_12
                      refine lv_aload_n hx hb dX4_minutesToEnd_124 rfl (lv_at hl 4 rfl) ?_
                      refine g_get hC V (ci := 4) uwX4 0 rfl rfl 2 (by decide) w_715 rfl rfl dX4_minutesToEnd_125 ?_
                      refine lv_iload hx hb dX4_minutesToEnd_128 (lv_at hl 1 rfl) ?_
                      refine lv_icmp_ne (tgt := 135) hx hb dX4_minutesToEnd_130 (by decide) (fun c_13 => ?_) (fun c_13 => ?_)
                      · skip
                        have c_13 := b_ne (by omega) (by omega) c_13
                        refine lv_iload hx hb dX4_minutesToEnd_135 (lv_at hl 1 rfl) ?_
                        refine lv_istore_n (lv' := [(2, .int (nI mt)), (5, .int (nI kb)), (4, .int (nI mt)), (3, .int (nI kk)), (0, .ref e0), (1, .ref a0)]) hx hb dX4_minutesToEnd_137 rfl hl (by decide) rfl (fun ls hl => ?_)
                        refine lv_iinc (v := (nI (kk + 1))) (lv' := [(3, .int (nI (kk + 1))), (2, .int (nI mt)), (5, .int (nI kb)), (4, .int (nI mt)), (0, .ref e0), (1, .ref a0)]) hx hb dX4_minutesToEnd_138 hl (k := 3) rfl (nI_1 _) (by decide) rfl (fun ls hl => ?_)
                        refine lv_goto (tgt := 27) hx hb dX4_minutesToEnd_141 (by decide) ?_
                        exact ih_27 (kk + 1) mt mu sa3 sb3 sc3 sd3 se3 (inA vv ((vv.drop fst).flatMap (scC an fa))) (by omega) (hv_e hht (by omega) hhu) (by omega) (by omega) (by omega) (by omega) (bf_s hbf (by omega) (by omega) hany hht (hv_e hht (by omega) hhu) (by omega) (by omega)) (by omega) _ _ _ V (lv_sub hl [0, 1, 4, 5] rfl)
                      · skip
                        have c_13 := b_eq (by omega) (by omega) c_13
                        refine lv_iconst (v := (-1)) hx hb dX4_minutesToEnd_133 (by decide +kernel) ?_
                        exact g_iret (Qr := (q_e_minutes_f T fa e0 a0 e1 e2 em e3 e4 e5 e6 ea eb ec ed ee ef an am al ao au a1 a2 a3 a4 a5 a6 a7 a8 a9 a10 af1 af2 af3 af4 af5 af6 af7 af9)) hC V ⟨(Nat.le_of_ble_eq_true rfl), (Nat.le_of_ble_eq_true rfl)⟩ ⟨(-1), mu, sa3, sb3, sc3, sd3, se3, g_3, rfl, rfl, (bf_1 hbf (by omega) hany hht (hv_e hht (by omega) hhu) (by omega) (by omega)), (by omega)⟩ dX4_minutesToEnd_134
                    · skip
                      have c_12 := b_nle (by omega) (by omega) c_12
                      refine lv_bipush (v := (-4)) hx hb dX4_minutesToEnd_121 (by decide +kernel) ?_
                      exact g_iret (Qr := (q_e_minutes_f T fa e0 a0 e1 e2 em e3 e4 e5 e6 ea eb ec ed ee ef an am al ao au a1 a2 a3 a4 a5 a6 a7 a8 a9 a10 af1 af2 af3 af4 af5 af6 af7 af9)) hC V ⟨(Nat.le_of_ble_eq_true rfl), (Nat.le_of_ble_eq_true rfl)⟩ ⟨(-4), mu, sa3, sb3, sc3, sd3, se3, g_3, rfl, rfl, (bf_4 hbf (by omega) hany (hv_m hht hhu (by omega))), (by have := hhu.2.1; omega)⟩ dX4_minutesToEnd_123
                  · skip
                    have c_11 := b_nle (by omega) (by omega) c_11
                    refine lv_aload_n hx hb dX4_minutesToEnd_83 rfl (lv_at hl 4 rfl) ?_
                    refine g_get hC V (ci := 4) uwX4 0 rfl rfl 2 (by decide) w_715 rfl rfl dX4_minutesToEnd_84 ?_
                    refine lv_sipush (v := (nI 3000)) hx hb dX4_minutesToEnd_87 (by decide +kernel) ?_
                    refine lv_icmp_gt (tgt := 111) hx hb dX4_minutesToEnd_90 (by decide) (fun c_14 => ?_) (fun c_14 => ?_)
                    · skip
                      have c_14 := b_lt (by omega) (by omega) c_14
                      have hmu := hv_l hht hhu
                      refine lv_aload_n hx hb dX4_minutesToEnd_111 rfl (lv_at hl 4 rfl) ?_
                      refine g_get hC V (ci := 4) uwX4 0 rfl rfl 2 (by decide) w_715 rfl rfl dX4_minutesToEnd_112 ?_
                      refine lv_sipush (v := (nI 3000)) hx hb dX4_minutesToEnd_115 (by decide +kernel) ?_
                      refine lv_icmp_le (tgt := 124) hx hb dX4_minutesToEnd_118 (by decide) (fun c_15 => ?_) (fun c_15 => ?_)
                      · skip
                        have c_15 := b_le (by omega) (by omega) c_15
                        refine lv_aload_n hx hb dX4_minutesToEnd_124 rfl (lv_at hl 4 rfl) ?_
                        refine g_get hC V (ci := 4) uwX4 0 rfl rfl 2 (by decide) w_715 rfl rfl dX4_minutesToEnd_125 ?_
                        refine lv_iload hx hb dX4_minutesToEnd_128 (lv_at hl 1 rfl) ?_
                        refine lv_icmp_ne (tgt := 135) hx hb dX4_minutesToEnd_130 (by decide) (fun c_16 => ?_) (fun c_16 => ?_)
                        · skip
                          have c_16 := b_ne (by omega) (by omega) c_16
                          refine lv_iload hx hb dX4_minutesToEnd_135 (lv_at hl 1 rfl) ?_
                          refine lv_istore_n (lv' := [(2, .int (nI mt)), (5, .int (nI kb)), (4, .int (nI mt)), (3, .int (nI kk)), (0, .ref e0), (1, .ref a0)]) hx hb dX4_minutesToEnd_137 rfl hl (by decide) rfl (fun ls hl => ?_)
                          refine lv_iinc (v := (nI (kk + 1))) (lv' := [(3, .int (nI (kk + 1))), (2, .int (nI mt)), (5, .int (nI kb)), (4, .int (nI mt)), (0, .ref e0), (1, .ref a0)]) hx hb dX4_minutesToEnd_138 hl (k := 3) rfl (nI_1 _) (by decide) rfl (fun ls hl => ?_)
                          refine lv_goto (tgt := 27) hx hb dX4_minutesToEnd_141 (by decide) ?_
                          exact ih_27 (kk + 1) mt mu sa3 sb3 sc3 sd3 se3 (inA vv ((vv.drop fst).flatMap (scC an fa))) (by omega) (hv_e hht (by omega) hhu) (by omega) (by omega) (by omega) (by omega) (bf_s hbf (by omega) (by omega) hany hht (hv_e hht (by omega) hhu) (by omega) (by omega)) (by omega) _ _ _ V (lv_sub hl [0, 1, 4, 5] rfl)
                        · skip
                          have c_16 := b_eq (by omega) (by omega) c_16
                          refine lv_iconst (v := (-1)) hx hb dX4_minutesToEnd_133 (by decide +kernel) ?_
                          exact g_iret (Qr := (q_e_minutes_f T fa e0 a0 e1 e2 em e3 e4 e5 e6 ea eb ec ed ee ef an am al ao au a1 a2 a3 a4 a5 a6 a7 a8 a9 a10 af1 af2 af3 af4 af5 af6 af7 af9)) hC V ⟨(Nat.le_of_ble_eq_true rfl), (Nat.le_of_ble_eq_true rfl)⟩ ⟨(-1), mu, sa3, sb3, sc3, sd3, se3, g_3, rfl, rfl, (bf_1 hbf (by omega) hany hht (hv_e hht (by omega) hhu) (by omega) (by omega)), (by omega)⟩ dX4_minutesToEnd_134
                      · skip
                        have c_15 := b_nle (by omega) (by omega) c_15
                        refine lv_bipush (v := (-4)) hx hb dX4_minutesToEnd_121 (by decide +kernel) ?_
                        exact g_iret (Qr := (q_e_minutes_f T fa e0 a0 e1 e2 em e3 e4 e5 e6 ea eb ec ed ee ef an am al ao au a1 a2 a3 a4 a5 a6 a7 a8 a9 a10 af1 af2 af3 af4 af5 af6 af7 af9)) hC V ⟨(Nat.le_of_ble_eq_true rfl), (Nat.le_of_ble_eq_true rfl)⟩ ⟨(-4), mu, sa3, sb3, sc3, sd3, se3, g_3, rfl, rfl, (bf_4 hbf (by omega) hany (hv_m hht hhu (by omega))), (by have := hhu.2.1; omega)⟩ dX4_minutesToEnd_123
                    · skip
                      have c_14 := b_nlt (by omega) (by omega) c_14
                      refine lv_aload_n hx hb dX4_minutesToEnd_93 rfl (lv_at hl 4 rfl) ?_
                      refine lv_aload_n hx hb dX4_minutesToEnd_94 rfl (lv_at hl 5 rfl) ?_
                      refine lv_aload_n hx hb dX4_minutesToEnd_95 rfl (lv_at hl 4 rfl) ?_
                      refine g_get hC V (ci := 4) uwX4 0 rfl rfl 0 (by decide) w_713 rfl rfl dX4_minutesToEnd_96 ?_
                      refine lv_iload hx hb dX4_minutesToEnd_99 (lv_at hl 0 rfl) ?_
                      refine g_lald hC V 1 rfl (vp_in_nI (by omega) (by omega)) (v := (sa3 kb)) (congrArg _ (nI_clamp (by omega))) dX4_minutesToEnd_101 ?_
                      refine g_callVU (nA := 2) hC V hl.1 (e_goOn_f l D T fa (vv.getD kb []) (inA vv ((lvT vv fst kb).flatMap (scC an fa))) e0 a0 (sa3 kb) e1 e2 mu e3 e4 e5 e6 sa3 sb3 sc3 sd3 se3 g_3 an am al ao au a1 a2 a3 a4 a5 a6 a7 a8 a9 a10 af4 af5 af6 (by first | assumption | omega) h_a ((ht_r hht (by omega)).2.1) (hv_k hht hhu (by omega)) hhu hch h_o (by first | assumption | omega) (by first | assumption | omega) (by first | assumption | omega)) w_772 w_774 w_s29 w_18 w_775 (by decide +kernel) rfl ⟨(Nat.le_of_ble_eq_true rfl), (Nat.le_of_ble_eq_true rfl)⟩ 0 (ci := 4) rfl rfl [0, 1, 2, 3, 4, 5, 6, 7, 11, 12, 13] rfl rfl (Nat.le_of_ble_eq_true rfl) dX4_minutesToEnd_102 ⟨(Nat.le_of_ble_eq_true rfl), (Nat.le_of_ble_eq_true rfl)⟩ rfl (fun r w1 H locs hQ V => ?_)
                      obtain ⟨em2_17, g1_18, g2_19, gc_20, gd_21, ge_22, rfl, rfl, f_23⟩ := hQ
                      have V : gW D T A s [(e0, .inr (4, [.ref e1, .ref e2, .int (nI em2_17), .ref e3, .ref e4, .ref e5, .ref e6])), (e1, .inl (T 1, 3001, .inr (.inl g1_18))), (e2, .inl (T 0, 8192, .inl g2_19)), (e3, .inl (T 0, 3, .inl gc_20)), (e4, .inl (T 0, 3, .inl gd_21)), (e5, .inl (T 0, 3, .inl ge_22)), (e6, .inl (T 0, 24, .inl g_3)), (a0, .inr (5, [.int (nI an), .int am, .int al, .int ao, .int au, .ref a1, .ref a2, .ref a3, .ref a4, .ref a5, .ref a6, .ref a7, .ref a8, .ref a9, .ref a10])), (a1, .inl (T 0, 10, .inl af1)), (a2, .inl (T 0, 10, .inl af2)), (a3, .inl (T 0, 10, .inl af3)), (a4, .inl (T 0, 10, .inl af4)), (a5, .inl (T 0, 10, .inl af5)), (a6, .inl (T 0, 10, .inl af6)), (a7, .inl (T 0, 10, .inl af7)), (a9, .inl (T 0, 10, .inl af9))] H locs := V _ [0, 0, 0, 0, 0, 0, 0, 0, 3, 0, 0] rfl rfl rfl (by decide +kernel) rfl
                      show W p l e _ s m args below meth c H locs _ _ _ (F0 m 105 ls [])
                      refine lv_iinc (v := (nI (kb + 1))) (lv' := [(5, .int (nI (kb + 1))), (4, .int (nI mt)), (3, .int (nI kk)), (2, .int (nI fst)), (0, .ref e0), (1, .ref a0)]) hx hb dX4_minutesToEnd_105 hl (k := 0) rfl (nI_1 _) (by decide) rfl (fun ls hl => ?_)
                      refine lv_goto (tgt := 76) hx hb dX4_minutesToEnd_108 (by decide) ?_
                      exact ih_76 (kb + 1) em2_17 g1_18 g2_19 gc_20 gd_21 ge_22 (by omega) (by omega) (hv_s hht hfb (by omega) f_23) (by omega) _ _ _ V (lv_sub hl [0, 1, 2, 3, 4, 5] rfl)
              exact L_10 _ fst mt sa sb sc2 sd2 se (by omega) (Nat.le_refl _) (hv_0 hht) (Nat.lt_succ_self _) _ _ _ V (lv_sub hl [0, 1, 2, 3, 4, 5] rfl)
            · skip
              have c_9 := b_nle (by omega) (by omega) c_9
              refine lv_aload_n hx hb dX4_minutesToEnd_50 rfl (lv_at hl 4 rfl) ?_
              refine lv_aload_n hx hb dX4_minutesToEnd_51 rfl (lv_at hl 5 rfl) ?_
              refine lv_aload_n hx hb dX4_minutesToEnd_52 rfl (lv_at hl 4 rfl) ?_
              refine g_get hC V (ci := 4) uwX4 0 rfl rfl 0 (by decide) w_713 rfl rfl dX4_minutesToEnd_53 ?_
              refine lv_iload hx hb dX4_minutesToEnd_56 (lv_at hl 0 rfl) ?_
              refine g_lald hC V 1 rfl (vp_in_nI (by omega) (by omega)) (v := (sa ka)) (congrArg _ (nI_clamp (by omega))) dX4_minutesToEnd_58 ?_
              refine g_callVU (nA := 2) hC V hl.1 (e_endsNext_f l D T fa (vv.getD ka []) e0 a0 (sa ka) e1 e2 mt e3 e4 e5 e6 sc2 sd2 an am al ao au a1 a2 a3 a4 a5 a6 a7 a8 a9 a10 af4 af5 af6 (by first | assumption | omega) ((ht_r hht (by omega)).2.1) ((ht_r hht (by omega)).1) (by first | assumption | omega) (by first | assumption | omega) (by first | assumption | omega)) w_759 w_761 w_s26 w_18 w_762 (by decide +kernel) rfl ⟨(Nat.le_of_ble_eq_true rfl), (Nat.le_of_ble_eq_true rfl)⟩ 0 (ci := 4) rfl rfl [0, 3, 4, 7, 11, 12, 13] rfl rfl (Nat.le_of_ble_eq_true rfl) dX4_minutesToEnd_59 ⟨(Nat.le_of_ble_eq_true rfl), (Nat.le_of_ble_eq_true rfl)⟩ rfl (fun r w1 H locs hQ V => ?_)
              rcases hQ with ⟨gc_24, gd_25, rfl, rfl, f_26⟩ | ⟨gc_27, gd_28, rfl, rfl, f_29⟩
              · have V : gW D T A s [(e0, .inr (4, [.ref e1, .ref e2, .int (nI mt), .ref e3, .ref e4, .ref e5, .ref e6])), (e1, .inl (T 1, 3001, .inr (.inl sa))), (e2, .inl (T 0, 8192, .inl sb)), (e3, .inl (T 0, 3, .inl gc_24)), (e4, .inl (T 0, 3, .inl gd_25)), (e5, .inl (T 0, 3, .inl se)), (e6, .inl (T 0, 24, .inl g_3)), (a0, .inr (5, [.int (nI an), .int am, .int al, .int ao, .int au, .ref a1, .ref a2, .ref a3, .ref a4, .ref a5, .ref a6, .ref a7, .ref a8, .ref a9, .ref a10])), (a1, .inl (T 0, 10, .inl af1)), (a2, .inl (T 0, 10, .inl af2)), (a3, .inl (T 0, 10, .inl af3)), (a4, .inl (T 0, 10, .inl af4)), (a5, .inl (T 0, 10, .inl af5)), (a6, .inl (T 0, 10, .inl af6)), (a7, .inl (T 0, 10, .inl af7)), (a9, .inl (T 0, 10, .inl af9))] H locs := V _ [0, 2, 0, 2, 3, 0, 0] rfl rfl rfl (by decide +kernel) rfl
                show W p l e _ s m args below meth c H locs _ _ _ (F0 m 62 ls [.int (nI 1)])
                refine lv_if_eq (tgt := 67) hx hb dX4_minutesToEnd_62 (by decide) (fun c => absurd (show (nI 1) = 0 from c) (by decide +kernel)) (fun _ => ?_)
                refine lv_iload_n hx hb dX4_minutesToEnd_65 rfl (lv_at hl 2 rfl) ?_
                exact g_iret (Qr := (q_e_minutes_f T fa e0 a0 e1 e2 em e3 e4 e5 e6 ea eb ec ed ee ef an am al ao au a1 a2 a3 a4 a5 a6 a7 a8 a9 a10 af1 af2 af3 af4 af5 af6 af7 af9)) hC V ⟨(Nat.le_of_ble_eq_true rfl), (Nat.le_of_ble_eq_true rfl)⟩ ⟨(nI kk), mt, sa, sb, gc_24, gd_25, se, g_3, rfl, rfl, (bf_e hbf (by omega) hfa (by rw [hht.1]; omega) f_26), (by omega)⟩ dX4_minutesToEnd_66
              · have V : gW D T A s [(e0, .inr (4, [.ref e1, .ref e2, .int (nI mt), .ref e3, .ref e4, .ref e5, .ref e6])), (e1, .inl (T 1, 3001, .inr (.inl sa))), (e2, .inl (T 0, 8192, .inl sb)), (e3, .inl (T 0, 3, .inl gc_27)), (e4, .inl (T 0, 3, .inl gd_28)), (e5, .inl (T 0, 3, .inl se)), (e6, .inl (T 0, 24, .inl g_3)), (a0, .inr (5, [.int (nI an), .int am, .int al, .int ao, .int au, .ref a1, .ref a2, .ref a3, .ref a4, .ref a5, .ref a6, .ref a7, .ref a8, .ref a9, .ref a10])), (a1, .inl (T 0, 10, .inl af1)), (a2, .inl (T 0, 10, .inl af2)), (a3, .inl (T 0, 10, .inl af3)), (a4, .inl (T 0, 10, .inl af4)), (a5, .inl (T 0, 10, .inl af5)), (a6, .inl (T 0, 10, .inl af6)), (a7, .inl (T 0, 10, .inl af7)), (a9, .inl (T 0, 10, .inl af9))] H locs := V _ [0, 2, 0, 2, 3, 0, 0] rfl rfl rfl (by decide +kernel) rfl
                show W p l e _ s m args below meth c H locs _ _ _ (F0 m 62 ls [.int (nI 0)])
                refine lv_if_eq (tgt := 67) hx hb dX4_minutesToEnd_62 (by decide) (fun _ => ?_) (fun c => absurd (show (nI 0) = 0 by decide +kernel) c)
                refine lv_iinc (v := (nI (ka + 1))) (lv' := [(5, .int (nI (ka + 1))), (4, .int (nI mt)), (3, .int (nI kk)), (2, .int (nI fst)), (0, .ref e0), (1, .ref a0)]) hx hb dX4_minutesToEnd_67 hl (k := 0) rfl (nI_1 _) (by decide) rfl (fun ls hl => ?_)
                refine lv_goto (tgt := 43) hx hb dX4_minutesToEnd_70 (by decide) ?_
                exact ih_43 (ka + 1) gc_27 gd_28 (by omega) (by omega) (an_s hne hfa (by rw [hht.1]; omega) f_29) (by omega) _ _ _ V (lv_sub hl [0, 1, 2, 3, 4, 5] rfl)
        exact L_8 _ fst sc_ sd (by omega) (Nat.le_refl _) an_0 (Nat.lt_succ_self _) _ _ _ V (lv_sub hl [0, 1, 2, 3, 4, 5] rfl)
  exact L_6 _ 1 0 mp ga_ gb_ ec ed ee ([prS an fa]) (by omega) h0 (by omega) (by omega) (by omega) (by omega) rfl (Nat.lt_succ_self _) _ _ _ V (lv_sub hl [0, 1, 2, 3] rfl)

def q_x_soonestB_f (T : Nat → ClassId) (fa : Nat → Int32) (o : Nat) (n0 : Nat) (s0 : Nat) (im : Nat) (iz : Nat) (rw : Nat) (t0 : Nat) (u0 : Nat) (h0 : Nat) (y0 : Nat) (e0 : Nat) (nn : Nat) (nm : Int32) (nl : Int32) (no : Int32) (nu : Int32) (n1 : Nat) (n2 : Nat) (n3 : Nat) (n4 : Nat) (n5 : Nat) (n6 : Nat) (n7 : Nat) (n8 : Nat) (n9 : Nat) (n10 : Nat) (nf1 : Nat → Int32) (nf2 : Nat → Int32) (nf3 : Nat → Int32) (nf4 : Nat → Int32) (nf5 : Nat → Int32) (nf6 : Nat → Int32) (nf7 : Nat → Int32) (nf9 : Nat → Int32) (e1 : Nat) (e2 : Nat) (em : Int32) (e3 : Nat) (e4 : Nat) (e5 : Nat) (e6 : Nat) (ea : Nat → Int64) (eb : Nat → Int32) (ec : Nat → Int32) (ed : Nat → Int32) (ee : Nat → Int32) (ef : Nat → Int32) : Option Value → va_W → Prop := fun rr ww => (∃ (z : Int32) (em2 : Int32) (g1 : Nat → Int64) (g2 : Nat → Int32) (gc : Nat → Int32) (gd : Nat → Int32) (ge : Nat → Int32) (gf : Nat → Int32), rr = some (.int z) ∧ ww = [(o, .inr (7, [.ref n0, .ref s0, .ref im, .ref iz, .ref rw, .ref t0, .ref u0, .ref h0, .ref y0, .ref e0])), (n0, .inr (5, [.int (nI nn), .int nm, .int nl, .int no, .int nu, .ref n1, .ref n2, .ref n3, .ref n4, .ref n5, .ref n6, .ref n7, .ref n8, .ref n9, .ref n10])), (n1, .inl (T 0, 10, .inl nf1)), (n2, .inl (T 0, 10, .inl nf2)), (n3, .inl (T 0, 10, .inl nf3)), (n4, .inl (T 0, 10, .inl nf4)), (n5, .inl (T 0, 10, .inl nf5)), (n6, .inl (T 0, 10, .inl nf6)), (n7, .inl (T 0, 10, .inl nf7)), (n9, .inl (T 0, 10, .inl nf9)), (e0, .inr (4, [.ref e1, .ref e2, .int em2, .ref e3, .ref e4, .ref e5, .ref e6])), (e1, .inl (T 1, 3001, .inr (.inl g1))), (e2, .inl (T 0, 8192, .inl g2)), (e3, .inl (T 0, 3, .inl gc)), (e4, .inl (T 0, 3, .inl gd)), (e5, .inl (T 0, 3, .inl ge)), (e6, .inl (T 0, 24, .inl gf))] ∧ z = sooA nn fa)
set_option maxHeartbeats 4000000 in
set_option maxRecDepth 100000 in
theorem x_soonestB_f (l : Launch) (D : va_G) (T : Nat → ClassId) (fa : Nat → Int32) (o : Nat) (n0 : Nat) (s0 : Nat) (im : Nat) (iz : Nat) (rw : Nat) (t0 : Nat) (u0 : Nat) (h0 : Nat) (y0 : Nat) (e0 : Nat) (nn : Nat) (nm : Int32) (nl : Int32) (no : Int32) (nu : Int32) (n1 : Nat) (n2 : Nat) (n3 : Nat) (n4 : Nat) (n5 : Nat) (n6 : Nat) (n7 : Nat) (n8 : Nat) (n9 : Nat) (n10 : Nat) (nf1 : Nat → Int32) (nf2 : Nat → Int32) (nf3 : Nat → Int32) (nf4 : Nat → Int32) (nf5 : Nat → Int32) (nf6 : Nat → Int32) (nf7 : Nat → Int32) (nf9 : Nat → Int32) (e1 : Nat) (e2 : Nat) (em : Int32) (e3 : Nat) (e4 : Nat) (e5 : Nat) (e6 : Nat) (ea : Nat → Int64) (eb : Nat → Int32) (ec : Nat → Int32) (ed : Nat → Int32) (ee : Nat → Int32) (ef : Nat → Int32) (h_n : nn ≤ 10) (h_sr : SR nn nm nl no nf1 nf2 nf3 nf4 nf5 nf6 nf7 nf9 fa) (h_a : MI nn fa) : Ct l yX7_soonest cX7_soonest 1 (some .int) 5 0 0 D T [.ref o] [(o, .inr (7, [.ref n0, .ref s0, .ref im, .ref iz, .ref rw, .ref t0, .ref u0, .ref h0, .ref y0, .ref e0])), (n0, .inr (5, [.int (nI nn), .int nm, .int nl, .int no, .int nu, .ref n1, .ref n2, .ref n3, .ref n4, .ref n5, .ref n6, .ref n7, .ref n8, .ref n9, .ref n10])), (n1, .inl (T 0, 10, .inl nf1)), (n2, .inl (T 0, 10, .inl nf2)), (n3, .inl (T 0, 10, .inl nf3)), (n4, .inl (T 0, 10, .inl nf4)), (n5, .inl (T 0, 10, .inl nf5)), (n6, .inl (T 0, 10, .inl nf6)), (n7, .inl (T 0, 10, .inl nf7)), (n9, .inl (T 0, 10, .inl nf9)), (e0, .inr (4, [.ref e1, .ref e2, .int em, .ref e3, .ref e4, .ref e5, .ref e6])), (e1, .inl (T 1, 3001, .inr (.inl ea))), (e2, .inl (T 0, 8192, .inl eb)), (e3, .inl (T 0, 3, .inl ec)), (e4, .inl (T 0, 3, .inl ed)), (e5, .inl (T 0, 3, .inl ee)), (e6, .inl (T 0, 24, .inl ef))] (q_x_soonestB_f T fa o n0 s0 im iz rw t0 u0 h0 y0 e0 nn nm nl no nu n1 n2 n3 n4 n5 n6 n7 n8 n9 n10 nf1 nf2 nf3 nf4 nf5 nf6 nf7 nf9 e1 e2 em e3 e4 e5 e6 ea eb ec ed ee ef) := by
  refine Ct.of (cc := cX7_soonest) (maxL := 1) (ret := (some .int)) (by decide) (Nat.le_of_ble_eq_true rfl) ?_
  intro p e s m args below meth c A ls hC hnm V hl
  obtain ⟨hx, hb, hr, hml, hown, hts, hlocks⟩ := id hC
  generalize hH : s.heap = H at V ⊢
  clear hH
  have hl : lv_has ls 1 [(0, .ref o)] := hl
  generalize hlo : ([] : List Loc) = locs at V ⊢
  clear hlo
  refine lv_aload_n hx hb dX7_soonest_0 rfl (lv_at hl 0 rfl) ?_
  refine g_get hC V (ci := 7) uwX7 0 rfl rfl 0 (by decide) w_249 rfl rfl dX7_soonest_1 ?_
  refine g_get hC V (ci := 5) uwX5 1 rfl rfl 0 (by decide) w_38 rfl rfl dX7_soonest_4 ?_
  refine lv_iconst (v := (nI 3)) hx hb dX7_soonest_7 (by decide +kernel) ?_
  refine lv_icmp_le (tgt := 14) hx hb dX7_soonest_8 (by decide) (fun c_1 => ?_) (fun c_1 => ?_)
  · skip
    have c_1 := b_le (by omega) (by omega) c_1
    refine lv_aload_n hx hb dX7_soonest_14 rfl (lv_at hl 0 rfl) ?_
    refine g_get hC V (ci := 7) uwX7 0 rfl rfl 0 (by decide) w_249 rfl rfl dX7_soonest_15 ?_
    refine g_callVU (nA := 0) hC V hl.1 (s_piecesDone_f l D T fa n0 nn nm nl no nu n1 n2 n3 n4 n5 n6 n7 n8 n9 n10 nf6 nf7 (by first | assumption | omega) (fun i hi => (h_sr.2.2.2.2 i hi).2.2.2.2.2.1) (fun i hi => (h_sr.2.2.2.2 i hi).2.2.2.2.2.2.1)) w_516 w_517 w_518 w_3 w_519 (by decide +kernel) rfl ⟨(Nat.le_of_ble_eq_true rfl), (Nat.le_of_ble_eq_true rfl)⟩ 1 (ci := 5) rfl rfl [1, 7, 8] rfl rfl (Nat.le_of_ble_eq_true rfl) dX7_soonest_18 ⟨(Nat.le_of_ble_eq_true rfl), (Nat.le_of_ble_eq_true rfl)⟩ rfl (fun r w1 H locs hQ V => ?_)
    obtain ⟨z_2, rfl, rfl, f_3⟩ := hQ
    have V : gW D T A s [(o, .inr (7, [.ref n0, .ref s0, .ref im, .ref iz, .ref rw, .ref t0, .ref u0, .ref h0, .ref y0, .ref e0])), (n0, .inr (5, [.int (nI nn), .int nm, .int nl, .int no, .int nu, .ref n1, .ref n2, .ref n3, .ref n4, .ref n5, .ref n6, .ref n7, .ref n8, .ref n9, .ref n10])), (n1, .inl (T 0, 10, .inl nf1)), (n2, .inl (T 0, 10, .inl nf2)), (n3, .inl (T 0, 10, .inl nf3)), (n4, .inl (T 0, 10, .inl nf4)), (n5, .inl (T 0, 10, .inl nf5)), (n6, .inl (T 0, 10, .inl nf6)), (n7, .inl (T 0, 10, .inl nf7)), (n9, .inl (T 0, 10, .inl nf9)), (e0, .inr (4, [.ref e1, .ref e2, .int em, .ref e3, .ref e4, .ref e5, .ref e6])), (e1, .inl (T 1, 3001, .inr (.inl ea))), (e2, .inl (T 0, 8192, .inl eb)), (e3, .inl (T 0, 3, .inl ec)), (e4, .inl (T 0, 3, .inl ed)), (e5, .inl (T 0, 3, .inl ee)), (e6, .inl (T 0, 24, .inl ef))] H locs := V _ [1, 5, 0] rfl rfl rfl (by decide +kernel) rfl
    show W p l e _ s m args below meth c H locs _ _ _ (F0 m 21 ls [.int z_2])
    refine lv_aload_n hx hb dX7_soonest_21 rfl (lv_at hl 0 rfl) ?_
    refine g_get hC V (ci := 7) uwX7 0 rfl rfl 0 (by decide) w_249 rfl rfl dX7_soonest_22 ?_
    refine g_get hC V (ci := 5) uwX5 1 rfl rfl 0 (by decide) w_38 rfl rfl dX7_soonest_25 ?_
    refine lv_icmp_ne (tgt := 33) hx hb dX7_soonest_28 (by decide) (fun c_4 => ?_) (fun c_4 => ?_)
    · skip
      refine lv_aload_n hx hb dX7_soonest_33 rfl (lv_at hl 0 rfl) ?_
      refine g_get hC V (ci := 7) uwX7 0 rfl rfl 9 (by decide) w_258 rfl rfl dX7_soonest_34 ?_
      refine lv_ifnonnull (tgt := 51) hx hb dX7_soonest_37 (by decide) ?_
      refine lv_aload_n hx hb dX7_soonest_51 rfl (lv_at hl 0 rfl) ?_
      refine g_get hC V (ci := 7) uwX7 0 rfl rfl 9 (by decide) w_258 rfl rfl dX7_soonest_52 ?_
      refine lv_aload_n hx hb dX7_soonest_55 rfl (lv_at hl 0 rfl) ?_
      refine g_get hC V (ci := 7) uwX7 0 rfl rfl 0 (by decide) w_249 rfl rfl dX7_soonest_56 ?_
      refine g_callVU (nA := 1) hC V hl.1 (e_minutes_f l D T fa e0 n0 e1 e2 em e3 e4 e5 e6 ea eb ec ed ee ef nn nm nl no nu n1 n2 n3 n4 n5 n6 n7 n8 n9 n10 nf1 nf2 nf3 nf4 nf5 nf6 nf7 nf9 (by omega) h_a h_sr.2.2.1.symm (fun i hi => (h_sr.2.2.2.2 i hi).1) (fun i hi => (h_sr.2.2.2.2 i hi).2.1) (fun i hi => (h_sr.2.2.2.2 i hi).2.2.1) (fun i hi => (h_sr.2.2.2.2 i hi).2.2.2.1) (fun i hi => (h_sr.2.2.2.2 i hi).2.2.2.2.1) (fun i hi => (h_sr.2.2.2.2 i hi).2.2.2.2.2.1) (fun i hi => (h_sr.2.2.2.2 i hi).2.2.2.2.2.2.1) (fun i hi => (h_sr.2.2.2.2 i hi).2.2.2.2.2.2.2)) w_735 w_736 w_737 w_18 w_738 (by decide +kernel) rfl ⟨(Nat.le_of_ble_eq_true rfl), (Nat.le_of_ble_eq_true rfl)⟩ 10 (ci := 4) rfl rfl [10, 11, 12, 13, 14, 15, 16, 1, 2, 3, 4, 5, 6, 7, 8, 9] rfl rfl (Nat.le_of_ble_eq_true rfl) dX7_soonest_59 ⟨(Nat.le_of_ble_eq_true rfl), (Nat.le_of_ble_eq_true rfl)⟩ rfl (fun r w1 H locs hQ V => ?_)
      obtain ⟨z_5, em2_6, g1_7, g2_8, gc_9, gd_10, ge_11, gf_12, rfl, rfl, f_13, f_14⟩ := hQ
      have V : gW D T A s [(o, .inr (7, [.ref n0, .ref s0, .ref im, .ref iz, .ref rw, .ref t0, .ref u0, .ref h0, .ref y0, .ref e0])), (n0, .inr (5, [.int (nI nn), .int nm, .int nl, .int no, .int nu, .ref n1, .ref n2, .ref n3, .ref n4, .ref n5, .ref n6, .ref n7, .ref n8, .ref n9, .ref n10])), (n1, .inl (T 0, 10, .inl nf1)), (n2, .inl (T 0, 10, .inl nf2)), (n3, .inl (T 0, 10, .inl nf3)), (n4, .inl (T 0, 10, .inl nf4)), (n5, .inl (T 0, 10, .inl nf5)), (n6, .inl (T 0, 10, .inl nf6)), (n7, .inl (T 0, 10, .inl nf7)), (n9, .inl (T 0, 10, .inl nf9)), (e0, .inr (4, [.ref e1, .ref e2, .int (nI em2_6), .ref e3, .ref e4, .ref e5, .ref e6])), (e1, .inl (T 1, 3001, .inr (.inl g1_7))), (e2, .inl (T 0, 8192, .inl g2_8)), (e3, .inl (T 0, 3, .inl gc_9)), (e4, .inl (T 0, 3, .inl gd_10)), (e5, .inl (T 0, 3, .inl ge_11)), (e6, .inl (T 0, 24, .inl gf_12))] H locs := V _ [1, 0, 0, 0, 0, 0, 0, 0, 0, 0, 0, 0, 0, 0, 0, 0] rfl rfl rfl (by decide +kernel) rfl
      show W p l e _ s m args below meth c H locs _ _ _ (F0 m 62 ls [.int z_5])
      exact g_iret (Qr := (q_x_soonestB_f T fa o n0 s0 im iz rw t0 u0 h0 y0 e0 nn nm nl no nu n1 n2 n3 n4 n5 n6 n7 n8 n9 n10 nf1 nf2 nf3 nf4 nf5 nf6 nf7 nf9 e1 e2 em e3 e4 e5 e6 ea eb ec ed ee ef)) hC V ⟨(Nat.le_of_ble_eq_true rfl), (Nat.le_of_ble_eq_true rfl)⟩ ⟨z_5, (nI em2_6), g1_7, g2_8, gc_9, gd_10, ge_11, gf_12, rfl, rfl, (soo_C (by omega) h_a (fun q => c_4 (f_3.trans q)) f_13)⟩ dX7_soonest_62
    · skip
      refine lv_iconst (v := (nI 0)) hx hb dX7_soonest_31 (by decide +kernel) ?_
      exact g_iret (Qr := (q_x_soonestB_f T fa o n0 s0 im iz rw t0 u0 h0 y0 e0 nn nm nl no nu n1 n2 n3 n4 n5 n6 n7 n8 n9 n10 nf1 nf2 nf3 nf4 nf5 nf6 nf7 nf9 e1 e2 em e3 e4 e5 e6 ea eb ec ed ee ef)) hC V ⟨(Nat.le_of_ble_eq_true rfl), (Nat.le_of_ble_eq_true rfl)⟩ ⟨(nI 0), em, ea, eb, ec, ed, ee, ef, rfl, rfl, (soo_0 (by omega) (f_3.symm.trans c_4))⟩ dX7_soonest_32
  · skip
    have c_1 := b_nle (by omega) (by omega) c_1
    refine lv_bipush (v := (-4)) hx hb dX7_soonest_11 (by decide +kernel) ?_
    exact g_iret (Qr := (q_x_soonestB_f T fa o n0 s0 im iz rw t0 u0 h0 y0 e0 nn nm nl no nu n1 n2 n3 n4 n5 n6 n7 n8 n9 n10 nf1 nf2 nf3 nf4 nf5 nf6 nf7 nf9 e1 e2 em e3 e4 e5 e6 ea eb ec ed ee ef)) hC V ⟨(Nat.le_of_ble_eq_true rfl), (Nat.le_of_ble_eq_true rfl)⟩ ⟨(-4), em, ea, eb, ec, ed, ee, ef, rfl, rfl, (soo_4 (by omega))⟩ dX7_soonest_13

def q_x_soonestA_f (T : Nat → ClassId) (fa : Nat → Int32) (o : Nat) (n0 : Nat) (s0 : Nat) (im : Nat) (iz : Nat) (rw : Nat) (t0 : Nat) (u0 : Nat) (h0 : Nat) (y0 : Nat) (nn : Nat) (nm : Int32) (nl : Int32) (no : Int32) (nu : Int32) (n1 : Nat) (n2 : Nat) (n3 : Nat) (n4 : Nat) (n5 : Nat) (n6 : Nat) (n7 : Nat) (n8 : Nat) (n9 : Nat) (n10 : Nat) (nf1 : Nat → Int32) (nf2 : Nat → Int32) (nf3 : Nat → Int32) (nf4 : Nat → Int32) (nf5 : Nat → Int32) (nf6 : Nat → Int32) (nf7 : Nat → Int32) (nf9 : Nat → Int32) : Option Value → va_W → Prop := fun rr ww => (∃ (z : Int32), rr = some (.int z) ∧ ww = [(o, .inr (7, [.ref n0, .ref s0, .ref im, .ref iz, .ref rw, .ref t0, .ref u0, .ref h0, .ref y0, .null])), (n0, .inr (5, [.int (nI nn), .int nm, .int nl, .int no, .int nu, .ref n1, .ref n2, .ref n3, .ref n4, .ref n5, .ref n6, .ref n7, .ref n8, .ref n9, .ref n10])), (n1, .inl (T 0, 10, .inl nf1)), (n2, .inl (T 0, 10, .inl nf2)), (n3, .inl (T 0, 10, .inl nf3)), (n4, .inl (T 0, 10, .inl nf4)), (n5, .inl (T 0, 10, .inl nf5)), (n6, .inl (T 0, 10, .inl nf6)), (n7, .inl (T 0, 10, .inl nf7)), (n9, .inl (T 0, 10, .inl nf9))] ∧ z = sooA nn fa) ∨ (∃ (z : Int32) (e0 : Nat) (e1 : Nat) (e2 : Nat) (e3 : Nat) (e4 : Nat) (e5 : Nat) (e6 : Nat) (em2 : Int32) (g1 : Nat → Int64) (g2 : Nat → Int32) (gc : Nat → Int32) (gd : Nat → Int32) (ge : Nat → Int32) (gf : Nat → Int32), rr = some (.int z) ∧ ww = [(o, .inr (7, [.ref n0, .ref s0, .ref im, .ref iz, .ref rw, .ref t0, .ref u0, .ref h0, .ref y0, .ref e0])), (n0, .inr (5, [.int (nI nn), .int nm, .int nl, .int no, .int nu, .ref n1, .ref n2, .ref n3, .ref n4, .ref n5, .ref n6, .ref n7, .ref n8, .ref n9, .ref n10])), (n1, .inl (T 0, 10, .inl nf1)), (n2, .inl (T 0, 10, .inl nf2)), (n3, .inl (T 0, 10, .inl nf3)), (n4, .inl (T 0, 10, .inl nf4)), (n5, .inl (T 0, 10, .inl nf5)), (n6, .inl (T 0, 10, .inl nf6)), (n7, .inl (T 0, 10, .inl nf7)), (n9, .inl (T 0, 10, .inl nf9)), (e0, .inr (4, [.ref e1, .ref e2, .int em2, .ref e3, .ref e4, .ref e5, .ref e6])), (e1, .inl (T 1, 3001, .inr (.inl g1))), (e2, .inl (T 0, 8192, .inl g2)), (e3, .inl (T 0, 3, .inl gc)), (e4, .inl (T 0, 3, .inl gd)), (e5, .inl (T 0, 3, .inl ge)), (e6, .inl (T 0, 24, .inl gf))] ∧ z = sooA nn fa)
set_option maxHeartbeats 4000000 in
set_option maxRecDepth 100000 in
theorem x_soonestA_f (l : Launch) (D : va_G) (T : Nat → ClassId) (fa : Nat → Int32) (o : Nat) (n0 : Nat) (s0 : Nat) (im : Nat) (iz : Nat) (rw : Nat) (t0 : Nat) (u0 : Nat) (h0 : Nat) (y0 : Nat) (nn : Nat) (nm : Int32) (nl : Int32) (no : Int32) (nu : Int32) (n1 : Nat) (n2 : Nat) (n3 : Nat) (n4 : Nat) (n5 : Nat) (n6 : Nat) (n7 : Nat) (n8 : Nat) (n9 : Nat) (n10 : Nat) (nf1 : Nat → Int32) (nf2 : Nat → Int32) (nf3 : Nat → Int32) (nf4 : Nat → Int32) (nf5 : Nat → Int32) (nf6 : Nat → Int32) (nf7 : Nat → Int32) (nf9 : Nat → Int32) (h_n : nn ≤ 10) (h_sr : SR nn nm nl no nf1 nf2 nf3 nf4 nf5 nf6 nf7 nf9 fa) (h_a : MI nn fa) : Ct l yX7_soonest cX7_soonest 1 (some .int) 5 7 11233 D T [.ref o] [(o, .inr (7, [.ref n0, .ref s0, .ref im, .ref iz, .ref rw, .ref t0, .ref u0, .ref h0, .ref y0, .null])), (n0, .inr (5, [.int (nI nn), .int nm, .int nl, .int no, .int nu, .ref n1, .ref n2, .ref n3, .ref n4, .ref n5, .ref n6, .ref n7, .ref n8, .ref n9, .ref n10])), (n1, .inl (T 0, 10, .inl nf1)), (n2, .inl (T 0, 10, .inl nf2)), (n3, .inl (T 0, 10, .inl nf3)), (n4, .inl (T 0, 10, .inl nf4)), (n5, .inl (T 0, 10, .inl nf5)), (n6, .inl (T 0, 10, .inl nf6)), (n7, .inl (T 0, 10, .inl nf7)), (n9, .inl (T 0, 10, .inl nf9))] (q_x_soonestA_f T fa o n0 s0 im iz rw t0 u0 h0 y0 nn nm nl no nu n1 n2 n3 n4 n5 n6 n7 n8 n9 n10 nf1 nf2 nf3 nf4 nf5 nf6 nf7 nf9) := by
  refine Ct.of (cc := cX7_soonest) (maxL := 1) (ret := (some .int)) (by decide) (Nat.le_of_ble_eq_true rfl) ?_
  intro p e s m args below meth c A ls hC hnm V hl
  obtain ⟨hx, hb, hr, hml, hown, hts, hlocks⟩ := id hC
  generalize hH : s.heap = H at V ⊢
  clear hH
  have hl : lv_has ls 1 [(0, .ref o)] := hl
  generalize hlo : ([] : List Loc) = locs at V ⊢
  clear hlo
  refine lv_aload_n hx hb dX7_soonest_0 rfl (lv_at hl 0 rfl) ?_
  refine g_get hC V (ci := 7) uwX7 0 rfl rfl 0 (by decide) w_249 rfl rfl dX7_soonest_1 ?_
  refine g_get hC V (ci := 5) uwX5 1 rfl rfl 0 (by decide) w_38 rfl rfl dX7_soonest_4 ?_
  refine lv_iconst (v := (nI 3)) hx hb dX7_soonest_7 (by decide +kernel) ?_
  refine lv_icmp_le (tgt := 14) hx hb dX7_soonest_8 (by decide) (fun c_1 => ?_) (fun c_1 => ?_)
  · skip
    have c_1 := b_le (by omega) (by omega) c_1
    refine lv_aload_n hx hb dX7_soonest_14 rfl (lv_at hl 0 rfl) ?_
    refine g_get hC V (ci := 7) uwX7 0 rfl rfl 0 (by decide) w_249 rfl rfl dX7_soonest_15 ?_
    refine g_callVU (nA := 0) hC V hl.1 (s_piecesDone_f l D T fa n0 nn nm nl no nu n1 n2 n3 n4 n5 n6 n7 n8 n9 n10 nf6 nf7 (by first | assumption | omega) (fun i hi => (h_sr.2.2.2.2 i hi).2.2.2.2.2.1) (fun i hi => (h_sr.2.2.2.2 i hi).2.2.2.2.2.2.1)) w_516 w_517 w_518 w_3 w_519 (by decide +kernel) rfl ⟨(Nat.le_of_ble_eq_true rfl), (Nat.le_of_ble_eq_true rfl)⟩ 1 (ci := 5) rfl rfl [1, 7, 8] rfl rfl (Nat.le_of_ble_eq_true rfl) dX7_soonest_18 ⟨(Nat.le_of_ble_eq_true rfl), (Nat.le_of_ble_eq_true rfl)⟩ rfl (fun r w1 H locs hQ V => ?_)
    obtain ⟨z_2, rfl, rfl, f_3⟩ := hQ
    have V : gW D T A s [(o, .inr (7, [.ref n0, .ref s0, .ref im, .ref iz, .ref rw, .ref t0, .ref u0, .ref h0, .ref y0, .null])), (n0, .inr (5, [.int (nI nn), .int nm, .int nl, .int no, .int nu, .ref n1, .ref n2, .ref n3, .ref n4, .ref n5, .ref n6, .ref n7, .ref n8, .ref n9, .ref n10])), (n1, .inl (T 0, 10, .inl nf1)), (n2, .inl (T 0, 10, .inl nf2)), (n3, .inl (T 0, 10, .inl nf3)), (n4, .inl (T 0, 10, .inl nf4)), (n5, .inl (T 0, 10, .inl nf5)), (n6, .inl (T 0, 10, .inl nf6)), (n7, .inl (T 0, 10, .inl nf7)), (n9, .inl (T 0, 10, .inl nf9))] H locs := V _ [1, 5, 0] rfl rfl rfl (by decide +kernel) rfl
    show W p l e _ s m args below meth c H locs _ _ _ (F0 m 21 ls [.int z_2])
    refine lv_aload_n hx hb dX7_soonest_21 rfl (lv_at hl 0 rfl) ?_
    refine g_get hC V (ci := 7) uwX7 0 rfl rfl 0 (by decide) w_249 rfl rfl dX7_soonest_22 ?_
    refine g_get hC V (ci := 5) uwX5 1 rfl rfl 0 (by decide) w_38 rfl rfl dX7_soonest_25 ?_
    refine lv_icmp_ne (tgt := 33) hx hb dX7_soonest_28 (by decide) (fun c_4 => ?_) (fun c_4 => ?_)
    · skip
      refine lv_aload_n hx hb dX7_soonest_33 rfl (lv_at hl 0 rfl) ?_
      refine g_get hC V (ci := 7) uwX7 0 rfl rfl 9 (by decide) w_258 rfl rfl dX7_soonest_34 ?_
      refine lv_ifnonnullN hx hb dX7_soonest_37 ?_
      refine lv_aload_n hx hb dX7_soonest_40 rfl (lv_at hl 0 rfl) ?_
      refine g_new hC V (ci := 4) uwX4 tyX4 tyX4_ok w_707 w_708 w_18 rfl (fs := [.null, .null, .int (nI 0), .null, .null, .null, .null]) (by decide +kernel) (Nat.le_of_ble_eq_true rfl) (Nat.le_of_ble_eq_true rfl) dX7_soonest_41 (fun q_5 H V => ?_)
      have V : gW D T A s [(o, .inr (7, [.ref n0, .ref s0, .ref im, .ref iz, .ref rw, .ref t0, .ref u0, .ref h0, .ref y0, .null])), (n0, .inr (5, [.int (nI nn), .int nm, .int nl, .int no, .int nu, .ref n1, .ref n2, .ref n3, .ref n4, .ref n5, .ref n6, .ref n7, .ref n8, .ref n9, .ref n10])), (n1, .inl (T 0, 10, .inl nf1)), (n2, .inl (T 0, 10, .inl nf2)), (n3, .inl (T 0, 10, .inl nf3)), (n4, .inl (T 0, 10, .inl nf4)), (n5, .inl (T 0, 10, .inl nf5)), (n6, .inl (T 0, 10, .inl nf6)), (n7, .inl (T 0, 10, .inl nf7)), (n9, .inl (T 0, 10, .inl nf9)), (q_5, .inr (4, [.null, .null, .int (nI 0), .null, .null, .null, .null]))] H locs := V
      refine lv_dup hx hb dX7_soonest_44 rfl ?_
      refine g_callIN (wr := [(o, .inr (7, [.ref n0, .ref s0, .ref im, .ref iz, .ref rw, .ref t0, .ref u0, .ref h0, .ref y0, .null])), (n0, .inr (5, [.int (nI nn), .int nm, .int nl, .int no, .int nu, .ref n1, .ref n2, .ref n3, .ref n4, .ref n5, .ref n6, .ref n7, .ref n8, .ref n9, .ref n10])), (n1, .inl (T 0, 10, .inl nf1)), (n2, .inl (T 0, 10, .inl nf2)), (n3, .inl (T 0, 10, .inl nf3)), (n4, .inl (T 0, 10, .inl nf4)), (n5, .inl (T 0, 10, .inl nf5)), (n6, .inl (T 0, 10, .inl nf6)), (n7, .inl (T 0, 10, .inl nf7)), (n9, .inl (T 0, 10, .inl nf9))]) (nA := 0) (host := RX7) hC V hl.1 (e_init l D T q_5) w_711 (List.mem_of_getElem? (i := 0) rfl) w_18 w_710 rfl (by decide +kernel) rfl ⟨(Nat.le_of_ble_eq_true rfl), (Nat.le_of_ble_eq_true rfl)⟩ [10] [0, 1, 2, 3, 4, 5, 6, 7, 8, 9] rfl rfl rfl rfl (by decide) (Nat.le_of_ble_eq_true rfl) dX7_soonest_45 ⟨(Nat.le_of_ble_eq_true rfl), (Nat.le_of_ble_eq_true rfl)⟩ rfl (fun r w1 H locs hQ V => ?_)
      obtain ⟨b1_6, b2_7, b3_8, b4_9, b5_10, b6_11, rfl, rfl⟩ := hQ
      have V : gW D T A s [(o, .inr (7, [.ref n0, .ref s0, .ref im, .ref iz, .ref rw, .ref t0, .ref u0, .ref h0, .ref y0, .null])), (n0, .inr (5, [.int (nI nn), .int nm, .int nl, .int no, .int nu, .ref n1, .ref n2, .ref n3, .ref n4, .ref n5, .ref n6, .ref n7, .ref n8, .ref n9, .ref n10])), (n1, .inl (T 0, 10, .inl nf1)), (n2, .inl (T 0, 10, .inl nf2)), (n3, .inl (T 0, 10, .inl nf3)), (n4, .inl (T 0, 10, .inl nf4)), (n5, .inl (T 0, 10, .inl nf5)), (n6, .inl (T 0, 10, .inl nf6)), (n7, .inl (T 0, 10, .inl nf7)), (n9, .inl (T 0, 10, .inl nf9)), (q_5, .inr (4, [.ref b1_6, .ref b2_7, .int (nI 0), .ref b3_8, .ref b4_9, .ref b5_10, .ref b6_11])), (b1_6, .inl (T 1, 3001, .inr (.inl (fun _ => 0)))), (b2_7, .inl (T 0, 8192, .inl (fun _ => nI 0))), (b3_8, .inl (T 0, 3, .inl (fun _ => nI 0))), (b4_9, .inl (T 0, 3, .inl (fun _ => nI 0))), (b5_10, .inl (T 0, 3, .inl (fun _ => nI 0))), (b6_11, .inl (T 0, 24, .inl (fun _ => nI 0)))] H locs := V
      show W p l e _ s m args below meth c H locs _ _ _ (F0 m 48 ls [.ref q_5, .ref o])
      refine g_put hC V (ci := 7) uwX7 tyX7 tyX7_ok nmX7 0 rfl rfl 9 (by decide) w_258 rfl rfl rfl rfl (Nat.le_of_ble_eq_true rfl) (ws' := [(o, .inr (7, [.ref n0, .ref s0, .ref im, .ref iz, .ref rw, .ref t0, .ref u0, .ref h0, .ref y0, .ref q_5])), (n0, .inr (5, [.int (nI nn), .int nm, .int nl, .int no, .int nu, .ref n1, .ref n2, .ref n3, .ref n4, .ref n5, .ref n6, .ref n7, .ref n8, .ref n9, .ref n10])), (n1, .inl (T 0, 10, .inl nf1)), (n2, .inl (T 0, 10, .inl nf2)), (n3, .inl (T 0, 10, .inl nf3)), (n4, .inl (T 0, 10, .inl nf4)), (n5, .inl (T 0, 10, .inl nf5)), (n6, .inl (T 0, 10, .inl nf6)), (n7, .inl (T 0, 10, .inl nf7)), (n9, .inl (T 0, 10, .inl nf9)), (q_5, .inr (4, [.ref b1_6, .ref b2_7, .int (nI 0), .ref b3_8, .ref b4_9, .ref b5_10, .ref b6_11])), (b1_6, .inl (T 1, 3001, .inr (.inl (fun _ => 0)))), (b2_7, .inl (T 0, 8192, .inl (fun _ => nI 0))), (b3_8, .inl (T 0, 3, .inl (fun _ => nI 0))), (b4_9, .inl (T 0, 3, .inl (fun _ => nI 0))), (b5_10, .inl (T 0, 3, .inl (fun _ => nI 0))), (b6_11, .inl (T 0, 24, .inl (fun _ => nI 0)))]) rfl dX7_soonest_48 (fun H locs V => ?_)
      refine lv_aload_n hx hb dX7_soonest_51 rfl (lv_at hl 0 rfl) ?_
      refine g_get hC V (ci := 7) uwX7 0 rfl rfl 9 (by decide) w_258 rfl rfl dX7_soonest_52 ?_
      refine lv_aload_n hx hb dX7_soonest_55 rfl (lv_at hl 0 rfl) ?_
      refine g_get hC V (ci := 7) uwX7 0 rfl rfl 0 (by decide) w_249 rfl rfl dX7_soonest_56 ?_
      refine g_callVU (nA := 1) hC V hl.1 (e_minutes_f l D T fa q_5 n0 b1_6 b2_7 (nI 0) b3_8 b4_9 b5_10 b6_11 (fun _ => 0) (fun _ => nI 0) (fun _ => nI 0) (fun _ => nI 0) (fun _ => nI 0) (fun _ => nI 0) nn nm nl no nu n1 n2 n3 n4 n5 n6 n7 n8 n9 n10 nf1 nf2 nf3 nf4 nf5 nf6 nf7 nf9 (by omega) h_a h_sr.2.2.1.symm (fun i hi => (h_sr.2.2.2.2 i hi).1) (fun i hi => (h_sr.2.2.2.2 i hi).2.1) (fun i hi => (h_sr.2.2.2.2 i hi).2.2.1) (fun i hi => (h_sr.2.2.2.2 i hi).2.2.2.1) (fun i hi => (h_sr.2.2.2.2 i hi).2.2.2.2.1) (fun i hi => (h_sr.2.2.2.2 i hi).2.2.2.2.2.1) (fun i hi => (h_sr.2.2.2.2 i hi).2.2.2.2.2.2.1) (fun i hi => (h_sr.2.2.2.2 i hi).2.2.2.2.2.2.2)) w_735 w_736 w_737 w_18 w_738 (by decide +kernel) rfl ⟨(Nat.le_of_ble_eq_true rfl), (Nat.le_of_ble_eq_true rfl)⟩ 10 (ci := 4) rfl rfl [10, 11, 12, 13, 14, 15, 16, 1, 2, 3, 4, 5, 6, 7, 8, 9] rfl rfl (Nat.le_of_ble_eq_true rfl) dX7_soonest_59 ⟨(Nat.le_of_ble_eq_true rfl), (Nat.le_of_ble_eq_true rfl)⟩ rfl (fun r w1 H locs hQ V => ?_)
      obtain ⟨z_12, em2_13, g1_14, g2_15, gc_16, gd_17, ge_18, gf_19, rfl, rfl, f_20, f_21⟩ := hQ
      have V : gW D T A s [(o, .inr (7, [.ref n0, .ref s0, .ref im, .ref iz, .ref rw, .ref t0, .ref u0, .ref h0, .ref y0, .ref q_5])), (n0, .inr (5, [.int (nI nn), .int nm, .int nl, .int no, .int nu, .ref n1, .ref n2, .ref n3, .ref n4, .ref n5, .ref n6, .ref n7, .ref n8, .ref n9, .ref n10])), (n1, .inl (T 0, 10, .inl nf1)), (n2, .inl (T 0, 10, .inl nf2)), (n3, .inl (T 0, 10, .inl nf3)), (n4, .inl (T 0, 10, .inl nf4)), (n5, .inl (T 0, 10, .inl nf5)), (n6, .inl (T 0, 10, .inl nf6)), (n7, .inl (T 0, 10, .inl nf7)), (n9, .inl (T 0, 10, .inl nf9)), (q_5, .inr (4, [.ref b1_6, .ref b2_7, .int (nI em2_13), .ref b3_8, .ref b4_9, .ref b5_10, .ref b6_11])), (b1_6, .inl (T 1, 3001, .inr (.inl g1_14))), (b2_7, .inl (T 0, 8192, .inl g2_15)), (b3_8, .inl (T 0, 3, .inl gc_16)), (b4_9, .inl (T 0, 3, .inl gd_17)), (b5_10, .inl (T 0, 3, .inl ge_18)), (b6_11, .inl (T 0, 24, .inl gf_19))] H locs := V _ [1, 0, 0, 0, 0, 0, 0, 0, 0, 0, 0, 0, 0, 0, 0, 0] rfl rfl rfl (by decide +kernel) rfl
      show W p l e _ s m args below meth c H locs _ _ _ (F0 m 62 ls [.int z_12])
      exact g_iret (Qr := (q_x_soonestA_f T fa o n0 s0 im iz rw t0 u0 h0 y0 nn nm nl no nu n1 n2 n3 n4 n5 n6 n7 n8 n9 n10 nf1 nf2 nf3 nf4 nf5 nf6 nf7 nf9)) hC V ⟨(Nat.le_of_ble_eq_true rfl), (Nat.le_of_ble_eq_true rfl)⟩ (.inr ⟨z_12, q_5, b1_6, b2_7, b3_8, b4_9, b5_10, b6_11, (nI em2_13), g1_14, g2_15, gc_16, gd_17, ge_18, gf_19, rfl, rfl, (soo_C (by omega) h_a (fun q => c_4 (f_3.trans q)) f_20)⟩) dX7_soonest_62
    · skip
      refine lv_iconst (v := (nI 0)) hx hb dX7_soonest_31 (by decide +kernel) ?_
      exact g_iret (Qr := (q_x_soonestA_f T fa o n0 s0 im iz rw t0 u0 h0 y0 nn nm nl no nu n1 n2 n3 n4 n5 n6 n7 n8 n9 n10 nf1 nf2 nf3 nf4 nf5 nf6 nf7 nf9)) hC V ⟨(Nat.le_of_ble_eq_true rfl), (Nat.le_of_ble_eq_true rfl)⟩ (.inl ⟨(nI 0), rfl, rfl, (soo_0 (by omega) (f_3.symm.trans c_4))⟩) dX7_soonest_32
  · skip
    have c_1 := b_nle (by omega) (by omega) c_1
    refine lv_bipush (v := (-4)) hx hb dX7_soonest_11 (by decide +kernel) ?_
    exact g_iret (Qr := (q_x_soonestA_f T fa o n0 s0 im iz rw t0 u0 h0 y0 nn nm nl no nu n1 n2 n3 n4 n5 n6 n7 n8 n9 n10 nf1 nf2 nf3 nf4 nf5 nf6 nf7 nf9)) hC V ⟨(Nat.le_of_ble_eq_true rfl), (Nat.le_of_ble_eq_true rfl)⟩ (.inl ⟨(-4), rfl, rfl, (soo_4 (by omega))⟩) dX7_soonest_13
