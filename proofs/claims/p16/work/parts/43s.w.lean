/-! a DAY -/
def dyx (x : Int32) : Nat → Int32
  | 0 => x
  | k + 1 => nI 1103515245 * dyx x k + nI 12345
def dv (x : Int32) : Int32 := (x.toUInt32 >>> ((nI 16).toUInt32 &&& Int32.toUInt32 31)).toInt32 - (x.toUInt32 >>> ((nI 16).toUInt32 &&& Int32.toUInt32 31)).toInt32 / nI 3 * nI 3
def dyP (x : Int32) : Nat → Int32
  | 0 => nI 0
  | k + 1 => dyP x k ||| (if dv (dyx x (k + 1)) = nI 1 then nI 1 <<< (nI k &&& 31) else nI 0)
def dyS (x : Int32) : Nat → Int32
  | 0 => nI 0
  | k + 1 => dyS x k ||| (if dv (dyx x (k + 1)) = nI 2 then nI 1 <<< (nI k &&& 31) else nI 0)
def dyX (n : Nat) (x : Int32) : Nat → Int32
  | 0 => x
  | m + 1 => dyx (dyX n x m) n
def dyI (n : Nat) (f : Nat → Int32) (x : Int32) : Nat → Nat → Int32
  | 0 => f
  | m + 1 => goF n (dyI n f x m) (dyP (dyX n x m) n) (dyS (dyX n x m) n) (-1) (nI 0)
def dyC (n : Nat) (f : Nat → Int32) (x : Int32) : Nat → Int32
  | 0 => nI 0
  | m + 1 => dyC n f x m + goC (dyI n f x m) (dyS (dyX n x m) n) n
theorem dP_y {x : Int32} {k : Nat} (h : dv (dyx x (k + 1)) = nI 1) : dyP x k ||| (nI 1 <<< (nI k &&& 31)) = dyP x (k + 1) := by show _ = dyP x k ||| _; rw [if_pos h]
theorem dP_n {x : Int32} {k : Nat} (h : ¬ dv (dyx x (k + 1)) = nI 1) : dyP x k ||| nI 0 = dyP x (k + 1) := by show _ = dyP x k ||| _; rw [if_neg h]
theorem dS_y {x : Int32} {k : Nat} (h : dv (dyx x (k + 1)) = nI 2) : dyS x k ||| (nI 1 <<< (nI k &&& 31)) = dyS x (k + 1) := by show _ = dyS x k ||| _; rw [if_pos h]
theorem dS_n {x : Int32} {k : Nat} (h : ¬ dv (dyx x (k + 1)) = nI 2) : dyS x k ||| nI 0 = dyS x (k + 1) := by show _ = dyS x k ||| _; rw [if_neg h]
theorem dyI_mi {n : Nat} {f : Nat → Int32} {x : Int32} (h : MI n f) : ∀ k, MI n (dyI n f x k)
  | 0 => h
  | k + 1 => MI_go (dyI_mi h k)
def dayA (n : Nat) (f : Nat → Int32) (x v : Int32) : Int32 := if tmA 60 (f 1) v = nI 0 then dyC n f x v.toNatClampNeg else tmA 60 (f 1) v
def dayF (n : Nat) (f : Nat → Int32) (x v : Int32) : Nat → Int32 := if tmA 60 (f 1) v = nI 0 then dyI n f x v.toNatClampNeg else f
theorem day_n {n : Nat} {f : Nat → Int32} {x v z : Int32} (h : z = tmA 60 (f 1) v) (hz : ¬ z = 0) : z = dayA n f x v ∧ f = dayF n f x v := by
  have q : ¬ tmA 60 (f 1) v = nI 0 := fun e => hz (h.trans e)
  unfold dayA dayF; rw [if_neg q, if_neg q]; exact ⟨h, rfl⟩
theorem day_y {n j : Nat} {f : Nat → Int32} {x v : Int32} (h : nI 0 = tmA 60 (f 1) v) (e : v = nI j) (hj : j < 1000) : dyC n f x j = dayA n f x v ∧ dyI n f x j = dayF n f x v := by
  unfold dayA dayF; rw [if_pos h.symm, if_pos h.symm, e, nI_clamp (by omega)]; exact ⟨rfl, rfl⟩

def q_m_day_f (T : Nat → ClassId) (n : Nat) (o : Nat) (seed : Int32) (n_ : Int32) (w0 : Int32) (g1 : Nat) (g2 : Nat) (g3 : Nat) (g4 : Nat) (tp : Nat) (w6 : Int32) (w7 : Int32) (w8 : Int32) (w9 : Int32) (w10 : Int32) (w11 : Int32) (w12 : Int32) (w13 : Int32) (w14 : Int32) (g15 : Nat) (w16 : Int32) (g17 : Nat) (w18 : Int32) (w19 : Int32) (g20 : Nat) (w21 : Int32) (g22 : Nat) (g23 : Nat) (g24 : Nat) (w25 : Int32) (w26 : Int32) (w27 : Int32) (g28 : Nat) (g29 : Nat) (w30 : Int32) (g31 : Nat) (g32 : Nat) (g33 : Nat) (fa : Nat → Int32) (fh : Nat → Int32) : Option Value → va_W → Prop := fun rr ww => (∃ (z : Int32) (bm : Int32) (ga : Nat → Int32) (gh : Nat → Int32), rr = some (.int z) ∧ ww = [(o, .inr (8, [.int (nI 0), .ref g1, .ref g2, .ref g3, .ref g4, .int (nI tp), .int w6, .int w7, .int w8, .int w9, .int w10, .int w11, .int w12, .int w13, .int w14, .ref g15, .int bm, .ref g17, .int w18, .int w19, .ref g20, .int w21, .ref g22, .ref g23, .ref g24, .int w25, .int w26, .int w27, .ref g28, .ref g29, .int w30, .ref g31, .ref g32, .ref g33])), (g1, .inl (T 0, 282, .inl ga)), (g15, .inl (T 0, 10, .inl gh))] ∧ MS n fa ga ∧ z = dayA n fa seed n_ ∧ ga = dayF n fa seed n_)
set_option maxHeartbeats 4000000 in
set_option maxRecDepth 100000 in
theorem m_day_f (l : Launch) (D : va_G) (T : Nat → ClassId) (n : Nat) (o : Nat) (seed : Int32) (n_ : Int32) (w0 : Int32) (g1 : Nat) (g2 : Nat) (g3 : Nat) (g4 : Nat) (tp : Nat) (w6 : Int32) (w7 : Int32) (w8 : Int32) (w9 : Int32) (w10 : Int32) (w11 : Int32) (w12 : Int32) (w13 : Int32) (w14 : Int32) (g15 : Nat) (w16 : Int32) (g17 : Nat) (w18 : Int32) (w19 : Int32) (g20 : Nat) (w21 : Int32) (g22 : Nat) (g23 : Nat) (g24 : Nat) (w25 : Int32) (w26 : Int32) (w27 : Int32) (g28 : Nat) (g29 : Nat) (w30 : Int32) (g31 : Nat) (g32 : Nat) (g33 : Nat) (fa : Nat → Int32) (fh : Nat → Int32) (h_a : MI n fa) : Ct l yX8_day cX8_day 10 (some .int) 3 0 0 D T [.ref o, .int seed, .int n_] [(o, .inr (8, [.int w0, .ref g1, .ref g2, .ref g3, .ref g4, .int (nI tp), .int w6, .int w7, .int w8, .int w9, .int w10, .int w11, .int w12, .int w13, .int w14, .ref g15, .int w16, .ref g17, .int w18, .int w19, .ref g20, .int w21, .ref g22, .ref g23, .ref g24, .int w25, .int w26, .int w27, .ref g28, .ref g29, .int w30, .ref g31, .ref g32, .ref g33])), (g1, .inl (T 0, 282, .inl fa)), (g15, .inl (T 0, 10, .inl fh))] (q_m_day_f T n o seed n_ w0 g1 g2 g3 g4 tp w6 w7 w8 w9 w10 w11 w12 w13 w14 g15 w16 g17 w18 w19 g20 w21 g22 g23 g24 w25 w26 w27 g28 g29 w30 g31 g32 g33 fa fh) := by
  refine Ct.of (cc := cX8_day) (maxL := 10) (ret := (some .int)) (by decide) (Nat.le_of_ble_eq_true rfl) ?_
  intro p e s m args below meth c A ls hC hnm V hl
  obtain ⟨hx, hb, hr, hml, hown, hts, hlocks⟩ := id hC
  generalize hH : s.heap = H at V ⊢
  clear hH
  have hl : lv_has ls 10 [(0, .ref o), (1, .int seed), (2, .int n_)] := hl
  generalize hlo : ([] : List Loc) = locs at V ⊢
  clear hlo
  have ms0 := ms_rf h_a
  have hn10 := h_a.1
  refine lv_aload_n hx hb dX8_day_0 rfl (lv_at hl 0 rfl) ?_
  refine lv_iconst (v := (nI 0)) hx hb dX8_day_1 (by decide +kernel) ?_
  refine g_put hC V (ci := 8) uwX8 tyX8 tyX8_ok nmX8 0 rfl rfl 0 (by decide) w_912 rfl rfl rfl rfl (Nat.le_of_ble_eq_true rfl) (ws' := [(o, .inr (8, [.int (nI 0), .ref g1, .ref g2, .ref g3, .ref g4, .int (nI tp), .int w6, .int w7, .int w8, .int w9, .int w10, .int w11, .int w12, .int w13, .int w14, .ref g15, .int w16, .ref g17, .int w18, .int w19, .ref g20, .int w21, .ref g22, .ref g23, .ref g24, .int w25, .int w26, .int w27, .ref g28, .ref g29, .int w30, .ref g31, .ref g32, .ref g33])), (g1, .inl (T 0, 282, .inl fa)), (g15, .inl (T 0, 10, .inl fh))]) rfl dX8_day_2 (fun H locs V => ?_)
  refine lv_iload_n hx hb dX8_day_5 rfl (lv_at hl 2 rfl) ?_
  refine lv_i2l (v := n_.toInt64) hx hb dX8_day_6 rfl ?_
  refine lv_lconst (v := (nI 1).toInt64) hx hb dX8_day_7 (by decide +kernel) ?_
  refine lv_ldc2 (v := (60)) hx hb hown (hts _ w_1108) dX8_day_8 ?_
  refine g_vl (y := (nI 60).toInt64) (by decide +kernel) ?_
  refine g_callSU (nA := 3) hC V hl.1 (m_within l D T n_ (nI 1) (nI 60)) w_1023 w_1024 w_9 w_1025 (by decide +kernel) rfl ⟨(Nat.le_of_ble_eq_true rfl), (Nat.le_of_ble_eq_true rfl)⟩ [] rfl rfl (Nat.le_of_ble_eq_true rfl) dX8_day_11 ⟨(Nat.le_of_ble_eq_true rfl), (Nat.le_of_ble_eq_true rfl)⟩ rfl (fun r w1 H locs hQ V => ?_)
  rcases hQ with ⟨rfl, rfl, f_1, f_2⟩ | ⟨rfl, rfl, f_3⟩
  · have V : gW D T A s [(o, .inr (8, [.int (nI 0), .ref g1, .ref g2, .ref g3, .ref g4, .int (nI tp), .int w6, .int w7, .int w8, .int w9, .int w10, .int w11, .int w12, .int w13, .int w14, .ref g15, .int w16, .ref g17, .int w18, .int w19, .ref g20, .int w21, .ref g22, .ref g23, .ref g24, .int w25, .int w26, .int w27, .ref g28, .ref g29, .int w30, .ref g31, .ref g32, .ref g33])), (g1, .inl (T 0, 282, .inl fa)), (g15, .inl (T 0, 10, .inl fh))] H locs := V _ [] rfl rfl rfl (by decide +kernel) rfl
    show W p l e _ s m args below meth c H locs _ _ _ (F0 m 14 ls [.int (nI 1)])
    obtain ⟨jd, hjd1, hjd2, ejd⟩ := g_rng (by first | decide | omega) (by first | decide | omega) f_1 f_2
    rw [ejd] at hl
    refine lv_if_ne (tgt := 20) hx hb dX8_day_14 (by decide) (fun _ => ?_) (fun c => absurd (show (nI 1) = 0 from c) (by decide +kernel))
    refine lv_aload_n hx hb dX8_day_20 rfl (lv_at hl 0 rfl) ?_
    refine g_get hC V (ci := 8) uwX8 0 rfl rfl 1 (by decide) w_913 rfl rfl dX8_day_21 ?_
    refine lv_iconst (v := (nI 1)) hx hb dX8_day_24 (by decide +kernel) ?_
    refine g_iald hC V 1 rfl (vp_in_nI (by decide) (by decide)) (v := (fa 1)) (congrArg _ (nI_clamp (by decide))) dX8_day_25 ?_
    refine lv_iload_n hx hb dX8_day_26 rfl (lv_at hl 2 rfl) ?_
    refine lv_iadd hx hb dX8_day_27 ?_
    refine lv_sipush (v := (nI 9999)) hx hb dX8_day_28 (by decide +kernel) ?_
    refine lv_icmp_le (tgt := 37) hx hb dX8_day_31 (by decide) (fun c_4 => ?_) (fun c_4 => ?_)
    · skip
      have hy0 : nI 0 = tmA 60 (fa 1) n_ := tm_0 f_1 f_2 (by rw [ejd]; exact Int32.not_lt.mpr c_4)
      refine lv_iload_n hx hb dX8_day_37 rfl (lv_at hl 1 rfl) ?_
      refine lv_istore_n (lv' := [(3, .int seed), (0, .ref o), (1, .int seed), (2, .int (nI jd))]) hx hb dX8_day_38 rfl hl (by decide) rfl (fun ls hl => ?_)
      refine lv_iconst (v := (nI 0)) hx hb dX8_day_39 (by decide +kernel) ?_
      refine lv_istore (lv' := [(4, .int (nI 0)), (3, .int seed), (0, .ref o), (1, .int seed), (2, .int (nI jd))]) hx hb dX8_day_40 hl (by decide) rfl (fun ls hl => ?_)
      refine lv_iconst (v := (nI 0)) hx hb dX8_day_42 (by decide +kernel) ?_
      refine lv_istore (lv' := [(5, .int (nI 0)), (4, .int (nI 0)), (3, .int seed), (0, .ref o), (1, .int seed), (2, .int (nI jd))]) hx hb dX8_day_43 hl (by decide) rfl (fun ls hl => ?_)
      have L_5 : ∀ (fu : Nat) (k45 : Nat) (yv : Int32) (x5 : Int32) (bv : Int32) (th : Nat → Int32) (f45 : Nat → Int32), k45 ≤ jd → MS n fa f45 → yv = dyX n seed k45 → f45 = dyI n fa seed k45 → x5 = dyC n fa seed k45 → jd - k45 < fu → ∀ (H : Heap) (locs : List Loc) (ls : Array Slot), gW D T A s [(o, .inr (8, [.int (nI 0), .ref g1, .ref g2, .ref g3, .ref g4, .int (nI tp), .int w6, .int w7, .int w8, .int w9, .int w10, .int w11, .int w12, .int w13, .int w14, .ref g15, .int bv, .ref g17, .int w18, .int w19, .ref g20, .int w21, .ref g22, .ref g23, .ref g24, .int w25, .int w26, .int w27, .ref g28, .ref g29, .int w30, .ref g31, .ref g32, .ref g33])), (g1, .inl (T 0, 282, .inl f45)), (g15, .inl (T 0, 10, .inl th))] H locs → lv_has ls 10 [(5, .int (nI k45)), (4, .int x5), (3, .int yv), (0, .ref o), (1, .int seed), (2, .int (nI jd))] → W p l e (rmD 3 0 0) s m args below meth c H locs 0 0 (MQ below (gQ D A (q_m_day_f T n o seed n_ w0 g1 g2 g3 g4 tp w6 w7 w8 w9 w10 w11 w12 w13 w14 g15 w16 g17 w18 w19 g20 w21 g22 g23 g24 w25 w26 w27 g28 g29 w30 g31 g32 g33 fa fh)) args s 0 0 A) (F0 m 45 ls []) := by
        intro fu_45
        induction fu_45 with
        | zero => intro k45 yv x5 bv th f45 hk45 hf45 hyv hI hx5 hmu; exact absurd hmu (Nat.not_lt_zero _)
        | succ fu_45 ih_45 =>
          intro k45 yv x5 bv th f45 hk45 hf45 hyv hI hx5 hmu_45 H locs ls V hl
          refine lv_iload hx hb dX8_day_45 (lv_at hl 0 rfl) ?_
          refine lv_iload_n hx hb dX8_day_47 rfl (lv_at hl 5 rfl) ?_
          refine lv_icmp_ge (tgt := 153) hx hb dX8_day_48 (by decide) (fun c_6 => ?_) (fun c_6 => ?_)
          · skip
            have c_6 := b_le (by omega) (by omega) c_6
            refine lv_iload hx hb dX8_day_153 (lv_at hl 1 rfl) ?_
            exact g_iret (Qr := (q_m_day_f T n o seed n_ w0 g1 g2 g3 g4 tp w6 w7 w8 w9 w10 w11 w12 w13 w14 g15 w16 g17 w18 w19 g20 w21 g22 g23 g24 w25 w26 w27 g28 g29 w30 g31 g32 g33 fa fh)) hC V ⟨(Nat.le_of_ble_eq_true rfl), (Nat.le_of_ble_eq_true rfl)⟩ ⟨x5, bv, f45, th, rfl, rfl, (by assumption), (by rw [← (day_y (n := n) (f := fa) (x := seed) hy0 ejd (by omega)).1, hx5]; congr 1; omega), (by rw [← (day_y (n := n) (f := fa) (x := seed) hy0 ejd (by omega)).2, hI]; congr 1; omega)⟩ dX8_day_155
          · skip
            have c_6 := b_nle (by omega) (by omega) c_6
            refine lv_iconst (v := (nI 0)) hx hb dX8_day_51 (by decide +kernel) ?_
            refine lv_istore (lv' := [(6, .int (nI 0)), (5, .int (nI k45)), (4, .int x5), (3, .int yv), (0, .ref o), (1, .int seed), (2, .int (nI jd))]) hx hb dX8_day_52 hl (by decide) rfl (fun ls hl => ?_)
            refine lv_iconst (v := (nI 0)) hx hb dX8_day_54 (by decide +kernel) ?_
            refine lv_istore (lv' := [(7, .int (nI 0)), (6, .int (nI 0)), (5, .int (nI k45)), (4, .int x5), (3, .int yv), (0, .ref o), (1, .int seed), (2, .int (nI jd))]) hx hb dX8_day_55 hl (by decide) rfl (fun ls hl => ?_)
            refine lv_iconst (v := (nI 0)) hx hb dX8_day_57 (by decide +kernel) ?_
            refine lv_istore (lv' := [(8, .int (nI 0)), (7, .int (nI 0)), (6, .int (nI 0)), (5, .int (nI k45)), (4, .int x5), (3, .int yv), (0, .ref o), (1, .int seed), (2, .int (nI jd))]) hx hb dX8_day_58 hl (by decide) rfl (fun ls hl => ?_)
            have L_7 : ∀ (fu : Nat) (k60 : Nat) (xv : Int32) (pv : Int32) (sv : Int32), k60 ≤ n → xv = dyx yv k60 → pv = dyP yv k60 → sv = dyS yv k60 → n - k60 < fu → ∀ (H : Heap) (locs : List Loc) (ls : Array Slot), gW D T A s [(o, .inr (8, [.int (nI 0), .ref g1, .ref g2, .ref g3, .ref g4, .int (nI tp), .int w6, .int w7, .int w8, .int w9, .int w10, .int w11, .int w12, .int w13, .int w14, .ref g15, .int bv, .ref g17, .int w18, .int w19, .ref g20, .int w21, .ref g22, .ref g23, .ref g24, .int w25, .int w26, .int w27, .ref g28, .ref g29, .int w30, .ref g31, .ref g32, .ref g33])), (g1, .inl (T 0, 282, .inl f45)), (g15, .inl (T 0, 10, .inl th))] H locs → lv_has ls 10 [(8, .int (nI k60)), (7, .int sv), (6, .int pv), (5, .int (nI k45)), (4, .int x5), (3, .int xv), (0, .ref o), (1, .int seed), (2, .int (nI jd))] → W p l e (rmD 3 0 0) s m args below meth c H locs 0 0 (MQ below (gQ D A (q_m_day_f T n o seed n_ w0 g1 g2 g3 g4 tp w6 w7 w8 w9 w10 w11 w12 w13 w14 g15 w16 g17 w18 w19 g20 w21 g22 g23 g24 w25 w26 w27 g28 g29 w30 g31 g32 g33 fa fh)) args s 0 0 A) (F0 m 60 ls []) := by
              intro fu_60
              induction fu_60 with
              | zero => intro k60 xv pv sv hk60 hxv hpv hsv hmu; exact absurd hmu (Nat.not_lt_zero _)
              | succ fu_60 ih_60 =>
                intro k60 xv pv sv hk60 hxv hpv hsv hmu_60 H locs ls V hl
                refine lv_iload hx hb dX8_day_60 (lv_at hl 0 rfl) ?_
                refine lv_aload_n hx hb dX8_day_62 rfl (lv_at hl 6 rfl) ?_
                refine g_get hC V (ci := 8) uwX8 0 rfl rfl 1 (by decide) w_913 rfl rfl dX8_day_63 ?_
                refine lv_iconst (v := (nI 0)) hx hb dX8_day_66 (by decide +kernel) ?_
                refine g_iald hC V 1 rfl (vp_in_nI (by decide) (by decide)) (v := (nI n)) (by rw [nI_clamp (by decide)]; first | rfl | exact h_a.2.1 | exact hf45.1.2.1) dX8_day_67 ?_
                refine lv_icmp_ge (tgt := 132) hx hb dX8_day_68 (by decide) (fun c_8 => ?_) (fun c_8 => ?_)
                · skip
                  have c_8 := b_le (by omega) (by omega) c_8
                  have hxn : xv = dyx yv n := by rw [hxv]; congr 1; omega
                  have hsn : sv = dyS yv n := by rw [hsv]; congr 1; omega
                  have hpn : pv = dyP yv n := by rw [hpv]; congr 1; omega
                  refine lv_iload hx hb dX8_day_132 (lv_at hl 4 rfl) ?_
                  refine lv_aload_n hx hb dX8_day_134 rfl (lv_at hl 6 rfl) ?_
                  refine lv_iload hx hb dX8_day_135 (lv_at hl 2 rfl) ?_
                  refine lv_iload hx hb dX8_day_137 (lv_at hl 1 rfl) ?_
                  refine lv_iconst (v := (-1)) hx hb dX8_day_139 (by decide +kernel) ?_
                  refine lv_iconst (v := (nI 0)) hx hb dX8_day_140 (by decide +kernel) ?_
                  refine g_callV (wr := []) (nA := 4) hC V hl.1 (m_goes_f l D T n o pv sv (-1) (nI 0) (nI 0) g1 g2 g3 g4 tp w6 w7 w8 w9 w10 w11 w12 w13 w14 g15 bv g17 w18 w19 g20 w21 g22 g23 g24 w25 w26 w27 g28 g29 w30 g31 g32 g33 f45 th hf45.1) w_1122 w_1124 w_s50 w_9 w_1125 (by decide +kernel) rfl ⟨(Nat.le_of_ble_eq_true rfl), (Nat.le_of_ble_eq_true rfl)⟩ 0 (ci := 8) rfl rfl [0, 1, 2] [] rfl rfl rfl rfl (by decide) (Nat.le_of_ble_eq_true rfl) dX8_day_141 ⟨(Nat.le_of_ble_eq_true rfl), (Nat.le_of_ble_eq_true rfl)⟩ rfl (fun r w1 H locs hQ V => ?_)
                  obtain ⟨z_9, bm_10, ga_11, gh_12, rfl, rfl, f_13, f_14, f_15, f_16⟩ := hQ
                  have V : gW D T A s [(o, .inr (8, [.int (nI 0), .ref g1, .ref g2, .ref g3, .ref g4, .int (nI tp), .int w6, .int w7, .int w8, .int w9, .int w10, .int w11, .int w12, .int w13, .int w14, .ref g15, .int bm_10, .ref g17, .int w18, .int w19, .ref g20, .int w21, .ref g22, .ref g23, .ref g24, .int w25, .int w26, .int w27, .ref g28, .ref g29, .int w30, .ref g31, .ref g32, .ref g33])), (g1, .inl (T 0, 282, .inl ga_11)), (g15, .inl (T 0, 10, .inl gh_12))] H locs := V
                  show W p l e _ s m args below meth c H locs _ _ _ (F0 m 144 ls [.int z_9, .int x5])
                  have hga_11 : MS n fa ga_11 := ms_tr (by assumption) f_13
                  refine lv_iadd hx hb dX8_day_144 ?_
                  refine lv_istore (lv' := [(4, .int (x5 + z_9)), (8, .int (nI k60)), (7, .int sv), (6, .int pv), (5, .int (nI k45)), (3, .int xv), (0, .ref o), (1, .int seed), (2, .int (nI jd))]) hx hb dX8_day_145 hl (by decide) rfl (fun ls hl => ?_)
                  refine lv_iinc (v := (nI (k45 + 1))) (lv' := [(5, .int (nI (k45 + 1))), (4, .int (x5 + z_9)), (8, .int (nI k60)), (7, .int sv), (6, .int pv), (3, .int xv), (0, .ref o), (1, .int seed), (2, .int (nI jd))]) hx hb dX8_day_147 hl (k := 4) rfl (nI_1 _) (by decide) rfl (fun ls hl => ?_)
                  refine lv_goto (tgt := 45) hx hb dX8_day_150 (by decide) ?_
                  exact ih_45 (k45 + 1) xv (x5 + z_9) bm_10 gh_12 ga_11 (by omega) (by assumption) (by rw [hxn, hyv]; rfl) (by rw [f_15, hsn, hpn, hI, hyv]; rfl) (by rw [hx5, f_14, hsn, hI, hyv]; rfl) (by omega) _ _ _ V (lv_sub hl [0, 1, 5, 6, 7, 8] rfl)
                · skip
                  have c_8 := b_nle (by omega) (by omega) c_8
                  refine lv_ldc (v := (1103515245)) hx hb hown (hts _ w_1195) dX8_day_71 ?_
                  refine g_vi (y := (nI 1103515245)) (by decide +kernel) ?_
                  refine lv_iload_n hx hb dX8_day_73 rfl (lv_at hl 5 rfl) ?_
                  refine lv_imul hx hb dX8_day_74 ?_
                  refine lv_sipush (v := (nI 12345)) hx hb dX8_day_75 (by decide +kernel) ?_
                  refine lv_iadd hx hb dX8_day_78 ?_
                  have hxe : (nI 1103515245) * xv + (nI 12345) = dyx yv (k60 + 1) := by rw [hxv]; rfl
                  refine lv_istore_n (lv' := [(3, .int (((nI 1103515245) * xv) + (nI 12345))), (8, .int (nI k60)), (7, .int sv), (6, .int pv), (5, .int (nI k45)), (4, .int x5), (0, .ref o), (1, .int seed), (2, .int (nI jd))]) hx hb dX8_day_79 rfl hl (by decide) rfl (fun ls hl => ?_)
                  refine lv_iload_n hx hb dX8_day_80 rfl (lv_at hl 0 rfl) ?_
                  refine lv_bipush (v := (nI 16)) hx hb dX8_day_81 (by decide +kernel) ?_
                  refine lv_iushr hx hb dX8_day_83 rfl ?_
                  refine lv_iconst (v := (nI 3)) hx hb dX8_day_84 (by decide +kernel) ?_
                  refine lv_irem hx hb dX8_day_85 (by decide +kernel) ?_
                  refine lv_istore (lv' := [(9, .int (((((((nI 1103515245) * xv) + (nI 12345))).toUInt32 >>> (((nI 16)).toUInt32 &&& Int32.toUInt32 31)).toInt32) - ((((((nI 1103515245) * xv) + (nI 12345))).toUInt32 >>> (((nI 16)).toUInt32 &&& Int32.toUInt32 31)).toInt32) / (nI 3) * (nI 3))), (3, .int (((nI 1103515245) * xv) + (nI 12345))), (8, .int (nI k60)), (7, .int sv), (6, .int pv), (5, .int (nI k45)), (4, .int x5), (0, .ref o), (1, .int seed), (2, .int (nI jd))]) hx hb dX8_day_86 hl (by decide) rfl (fun ls hl => ?_)
                  refine lv_iload hx hb dX8_day_88 (lv_at hl 4 rfl) ?_
                  refine lv_iload hx hb dX8_day_90 (lv_at hl 0 rfl) ?_
                  refine lv_iconst (v := (nI 1)) hx hb dX8_day_92 (by decide +kernel) ?_
                  refine lv_icmp_ne (tgt := 103) hx hb dX8_day_93 (by decide) (fun c_17 => ?_) (fun c_17 => ?_)
                  · skip
                    refine lv_iconst (v := (nI 0)) hx hb dX8_day_103 (by decide +kernel) ?_
                    refine lv_ior hx hb dX8_day_104 ?_
                    refine lv_istore (lv' := [(6, .int (pv ||| (nI 0))), (9, .int (((((((nI 1103515245) * xv) + (nI 12345))).toUInt32 >>> (((nI 16)).toUInt32 &&& Int32.toUInt32 31)).toInt32) - ((((((nI 1103515245) * xv) + (nI 12345))).toUInt32 >>> (((nI 16)).toUInt32 &&& Int32.toUInt32 31)).toInt32) / (nI 3) * (nI 3))), (3, .int (((nI 1103515245) * xv) + (nI 12345))), (8, .int (nI k60)), (7, .int sv), (5, .int (nI k45)), (4, .int x5), (0, .ref o), (1, .int seed), (2, .int (nI jd))]) hx hb dX8_day_105 hl (by decide) rfl (fun ls hl => ?_)
                    refine lv_iload hx hb dX8_day_107 (lv_at hl 4 rfl) ?_
                    refine lv_iload hx hb dX8_day_109 (lv_at hl 1 rfl) ?_
                    refine lv_iconst (v := (nI 2)) hx hb dX8_day_111 (by decide +kernel) ?_
                    refine lv_icmp_ne (tgt := 122) hx hb dX8_day_112 (by decide) (fun c_18 => ?_) (fun c_18 => ?_)
                    · skip
                      refine lv_iconst (v := (nI 0)) hx hb dX8_day_122 (by decide +kernel) ?_
                      refine lv_ior hx hb dX8_day_123 ?_
                      refine lv_istore (lv' := [(7, .int (sv ||| (nI 0))), (6, .int (pv ||| (nI 0))), (9, .int (((((((nI 1103515245) * xv) + (nI 12345))).toUInt32 >>> (((nI 16)).toUInt32 &&& Int32.toUInt32 31)).toInt32) - ((((((nI 1103515245) * xv) + (nI 12345))).toUInt32 >>> (((nI 16)).toUInt32 &&& Int32.toUInt32 31)).toInt32) / (nI 3) * (nI 3))), (3, .int (((nI 1103515245) * xv) + (nI 12345))), (8, .int (nI k60)), (5, .int (nI k45)), (4, .int x5), (0, .ref o), (1, .int seed), (2, .int (nI jd))]) hx hb dX8_day_124 hl (by decide) rfl (fun ls hl => ?_)
                      refine lv_iinc (v := (nI (k60 + 1))) (lv' := [(8, .int (nI (k60 + 1))), (7, .int (sv ||| (nI 0))), (6, .int (pv ||| (nI 0))), (9, .int (((((((nI 1103515245) * xv) + (nI 12345))).toUInt32 >>> (((nI 16)).toUInt32 &&& Int32.toUInt32 31)).toInt32) - ((((((nI 1103515245) * xv) + (nI 12345))).toUInt32 >>> (((nI 16)).toUInt32 &&& Int32.toUInt32 31)).toInt32) / (nI 3) * (nI 3))), (3, .int (((nI 1103515245) * xv) + (nI 12345))), (5, .int (nI k45)), (4, .int x5), (0, .ref o), (1, .int seed), (2, .int (nI jd))]) hx hb dX8_day_126 hl (k := 4) rfl (nI_1 _) (by decide) rfl (fun ls hl => ?_)
                      refine lv_goto (tgt := 60) hx hb dX8_day_129 (by decide) ?_
                      exact ih_60 (k60 + 1) (((nI 1103515245) * xv) + (nI 12345)) (pv ||| (nI 0)) (sv ||| (nI 0)) (by omega) hxe (by rw [hpv]; exact (dP_n (x := yv) (fun q => c_17 (by rw [← hxe] at q; exact q)))) (by rw [hsv]; exact (dS_n (x := yv) (fun q => c_18 (by rw [← hxe] at q; exact q)))) (by omega) _ _ _ V (lv_sub hl [0, 1, 2, 5, 6, 4, 7, 8, 9] rfl)
                    · skip
                      refine lv_iconst (v := (nI 1)) hx hb dX8_day_115 (by decide +kernel) ?_
                      refine lv_iload hx hb dX8_day_116 (lv_at hl 3 rfl) ?_
                      refine lv_ishl hx hb dX8_day_118 ?_
                      refine lv_goto (tgt := 123) hx hb dX8_day_119 (by decide) ?_
                      refine lv_ior hx hb dX8_day_123 ?_
                      refine lv_istore (lv' := [(7, .int (sv ||| ((nI 1) <<< ((nI k60) &&& 31)))), (6, .int (pv ||| (nI 0))), (9, .int (((((((nI 1103515245) * xv) + (nI 12345))).toUInt32 >>> (((nI 16)).toUInt32 &&& Int32.toUInt32 31)).toInt32) - ((((((nI 1103515245) * xv) + (nI 12345))).toUInt32 >>> (((nI 16)).toUInt32 &&& Int32.toUInt32 31)).toInt32) / (nI 3) * (nI 3))), (3, .int (((nI 1103515245) * xv) + (nI 12345))), (8, .int (nI k60)), (5, .int (nI k45)), (4, .int x5), (0, .ref o), (1, .int seed), (2, .int (nI jd))]) hx hb dX8_day_124 hl (by decide) rfl (fun ls hl => ?_)
                      refine lv_iinc (v := (nI (k60 + 1))) (lv' := [(8, .int (nI (k60 + 1))), (7, .int (sv ||| ((nI 1) <<< ((nI k60) &&& 31)))), (6, .int (pv ||| (nI 0))), (9, .int (((((((nI 1103515245) * xv) + (nI 12345))).toUInt32 >>> (((nI 16)).toUInt32 &&& Int32.toUInt32 31)).toInt32) - ((((((nI 1103515245) * xv) + (nI 12345))).toUInt32 >>> (((nI 16)).toUInt32 &&& Int32.toUInt32 31)).toInt32) / (nI 3) * (nI 3))), (3, .int (((nI 1103515245) * xv) + (nI 12345))), (5, .int (nI k45)), (4, .int x5), (0, .ref o), (1, .int seed), (2, .int (nI jd))]) hx hb dX8_day_126 hl (k := 4) rfl (nI_1 _) (by decide) rfl (fun ls hl => ?_)
                      refine lv_goto (tgt := 60) hx hb dX8_day_129 (by decide) ?_
                      exact ih_60 (k60 + 1) (((nI 1103515245) * xv) + (nI 12345)) (pv ||| (nI 0)) (sv ||| ((nI 1) <<< ((nI k60) &&& 31))) (by omega) hxe (by rw [hpv]; exact (dP_n (x := yv) (fun q => c_17 (by rw [← hxe] at q; exact q)))) (by rw [hsv]; exact (dS_y (x := yv) (by rw [← hxe]; exact c_18))) (by omega) _ _ _ V (lv_sub hl [0, 1, 2, 5, 6, 4, 7, 8, 9] rfl)
                  · skip
                    refine lv_iconst (v := (nI 1)) hx hb dX8_day_96 (by decide +kernel) ?_
                    refine lv_iload hx hb dX8_day_97 (lv_at hl 2 rfl) ?_
                    refine lv_ishl hx hb dX8_day_99 ?_
                    refine lv_goto (tgt := 104) hx hb dX8_day_100 (by decide) ?_
                    refine lv_ior hx hb dX8_day_104 ?_
                    refine lv_istore (lv' := [(6, .int (pv ||| ((nI 1) <<< ((nI k60) &&& 31)))), (9, .int (((((((nI 1103515245) * xv) + (nI 12345))).toUInt32 >>> (((nI 16)).toUInt32 &&& Int32.toUInt32 31)).toInt32) - ((((((nI 1103515245) * xv) + (nI 12345))).toUInt32 >>> (((nI 16)).toUInt32 &&& Int32.toUInt32 31)).toInt32) / (nI 3) * (nI 3))), (3, .int (((nI 1103515245) * xv) + (nI 12345))), (8, .int (nI k60)), (7, .int sv), (5, .int (nI k45)), (4, .int x5), (0, .ref o), (1, .int seed), (2, .int (nI jd))]) hx hb dX8_day_105 hl (by decide) rfl (fun ls hl => ?_)
                    refine lv_iload hx hb dX8_day_107 (lv_at hl 4 rfl) ?_
                    refine lv_iload hx hb dX8_day_109 (lv_at hl 1 rfl) ?_
                    refine lv_iconst (v := (nI 2)) hx hb dX8_day_111 (by decide +kernel) ?_
                    refine lv_icmp_ne (tgt := 122) hx hb dX8_day_112 (by decide) (fun c_19 => ?_) (fun c_19 => ?_)
                    · skip
                      refine lv_iconst (v := (nI 0)) hx hb dX8_day_122 (by decide +kernel) ?_
                      refine lv_ior hx hb dX8_day_123 ?_
                      refine lv_istore (lv' := [(7, .int (sv ||| (nI 0))), (6, .int (pv ||| ((nI 1) <<< ((nI k60) &&& 31)))), (9, .int (((((((nI 1103515245) * xv) + (nI 12345))).toUInt32 >>> (((nI 16)).toUInt32 &&& Int32.toUInt32 31)).toInt32) - ((((((nI 1103515245) * xv) + (nI 12345))).toUInt32 >>> (((nI 16)).toUInt32 &&& Int32.toUInt32 31)).toInt32) / (nI 3) * (nI 3))), (3, .int (((nI 1103515245) * xv) + (nI 12345))), (8, .int (nI k60)), (5, .int (nI k45)), (4, .int x5), (0, .ref o), (1, .int seed), (2, .int (nI jd))]) hx hb dX8_day_124 hl (by decide) rfl (fun ls hl => ?_)
                      refine lv_iinc (v := (nI (k60 + 1))) (lv' := [(8, .int (nI (k60 + 1))), (7, .int (sv ||| (nI 0))), (6, .int (pv ||| ((nI 1) <<< ((nI k60) &&& 31)))), (9, .int (((((((nI 1103515245) * xv) + (nI 12345))).toUInt32 >>> (((nI 16)).toUInt32 &&& Int32.toUInt32 31)).toInt32) - ((((((nI 1103515245) * xv) + (nI 12345))).toUInt32 >>> (((nI 16)).toUInt32 &&& Int32.toUInt32 31)).toInt32) / (nI 3) * (nI 3))), (3, .int (((nI 1103515245) * xv) + (nI 12345))), (5, .int (nI k45)), (4, .int x5), (0, .ref o), (1, .int seed), (2, .int (nI jd))]) hx hb dX8_day_126 hl (k := 4) rfl (nI_1 _) (by decide) rfl (fun ls hl => ?_)
                      refine lv_goto (tgt := 60) hx hb dX8_day_129 (by decide) ?_
                      exact ih_60 (k60 + 1) (((nI 1103515245) * xv) + (nI 12345)) (pv ||| ((nI 1) <<< ((nI k60) &&& 31))) (sv ||| (nI 0)) (by omega) hxe (by rw [hpv]; exact (dP_y (x := yv) (by rw [← hxe]; exact c_17))) (by rw [hsv]; exact (dS_n (x := yv) (fun q => c_19 (by rw [← hxe] at q; exact q)))) (by omega) _ _ _ V (lv_sub hl [0, 1, 2, 5, 6, 4, 7, 8, 9] rfl)
                    · skip
                      refine lv_iconst (v := (nI 1)) hx hb dX8_day_115 (by decide +kernel) ?_
                      refine lv_iload hx hb dX8_day_116 (lv_at hl 3 rfl) ?_
                      refine lv_ishl hx hb dX8_day_118 ?_
                      refine lv_goto (tgt := 123) hx hb dX8_day_119 (by decide) ?_
                      refine lv_ior hx hb dX8_day_123 ?_
                      refine lv_istore (lv' := [(7, .int (sv ||| ((nI 1) <<< ((nI k60) &&& 31)))), (6, .int (pv ||| ((nI 1) <<< ((nI k60) &&& 31)))), (9, .int (((((((nI 1103515245) * xv) + (nI 12345))).toUInt32 >>> (((nI 16)).toUInt32 &&& Int32.toUInt32 31)).toInt32) - ((((((nI 1103515245) * xv) + (nI 12345))).toUInt32 >>> (((nI 16)).toUInt32 &&& Int32.toUInt32 31)).toInt32) / (nI 3) * (nI 3))), (3, .int (((nI 1103515245) * xv) + (nI 12345))), (8, .int (nI k60)), (5, .int (nI k45)), (4, .int x5), (0, .ref o), (1, .int seed), (2, .int (nI jd))]) hx hb dX8_day_124 hl (by decide) rfl (fun ls hl => ?_)
                      refine lv_iinc (v := (nI (k60 + 1))) (lv' := [(8, .int (nI (k60 + 1))), (7, .int (sv ||| ((nI 1) <<< ((nI k60) &&& 31)))), (6, .int (pv ||| ((nI 1) <<< ((nI k60) &&& 31)))), (9, .int (((((((nI 1103515245) * xv) + (nI 12345))).toUInt32 >>> (((nI 16)).toUInt32 &&& Int32.toUInt32 31)).toInt32) - ((((((nI 1103515245) * xv) + (nI 12345))).toUInt32 >>> (((nI 16)).toUInt32 &&& Int32.toUInt32 31)).toInt32) / (nI 3) * (nI 3))), (3, .int (((nI 1103515245) * xv) + (nI 12345))), (5, .int (nI k45)), (4, .int x5), (0, .ref o), (1, .int seed), (2, .int (nI jd))]) hx hb dX8_day_126 hl (k := 4) rfl (nI_1 _) (by decide) rfl (fun ls hl => ?_)
                      refine lv_goto (tgt := 60) hx hb dX8_day_129 (by decide) ?_
                      exact ih_60 (k60 + 1) (((nI 1103515245) * xv) + (nI 12345)) (pv ||| ((nI 1) <<< ((nI k60) &&& 31))) (sv ||| ((nI 1) <<< ((nI k60) &&& 31))) (by omega) hxe (by rw [hpv]; exact (dP_y (x := yv) (by rw [← hxe]; exact c_17))) (by rw [hsv]; exact (dS_y (x := yv) (by rw [← hxe]; exact c_19))) (by omega) _ _ _ V (lv_sub hl [0, 1, 2, 5, 6, 4, 7, 8, 9] rfl)
            exact L_7 _ 0 yv (nI 0) (nI 0) (by omega) rfl rfl rfl (Nat.lt_succ_self _) _ _ _ V (lv_sub hl [0, 1, 2, 3, 4, 5, 6, 7, 8] rfl)
      exact L_5 _ 0 seed (nI 0) w16 fh fa (by omega) (by assumption) rfl rfl rfl (Nat.lt_succ_self _) _ _ _ V (lv_sub hl [0, 1, 2, 3, 4, 5] rfl)
    · skip
      refine lv_bipush (v := (-5)) hx hb dX8_day_34 (by decide +kernel) ?_
      exact g_iret (Qr := (q_m_day_f T n o seed n_ w0 g1 g2 g3 g4 tp w6 w7 w8 w9 w10 w11 w12 w13 w14 g15 w16 g17 w18 w19 g20 w21 g22 g23 g24 w25 w26 w27 g28 g29 w30 g31 g32 g33 fa fh)) hC V ⟨(Nat.le_of_ble_eq_true rfl), (Nat.le_of_ble_eq_true rfl)⟩ ⟨(-5), w16, fa, fh, rfl, rfl, ms0, (day_n (n := n) (f := fa) (x := seed) (tm_5 f_1 f_2 (by rw [ejd]; exact Int32.not_le.mp c_4)) (by decide +kernel)).1, (day_n (n := n) (f := fa) (x := seed) (tm_5 f_1 f_2 (by rw [ejd]; exact Int32.not_le.mp c_4)) (by decide +kernel)).2⟩ dX8_day_36
  · have V : gW D T A s [(o, .inr (8, [.int (nI 0), .ref g1, .ref g2, .ref g3, .ref g4, .int (nI tp), .int w6, .int w7, .int w8, .int w9, .int w10, .int w11, .int w12, .int w13, .int w14, .ref g15, .int w16, .ref g17, .int w18, .int w19, .ref g20, .int w21, .ref g22, .ref g23, .ref g24, .int w25, .int w26, .int w27, .ref g28, .ref g29, .int w30, .ref g31, .ref g32, .ref g33])), (g1, .inl (T 0, 282, .inl fa)), (g15, .inl (T 0, 10, .inl fh))] H locs := V _ [] rfl rfl rfl (by decide +kernel) rfl
    show W p l e _ s m args below meth c H locs _ _ _ (F0 m 14 ls [.int (nI 0)])
    refine lv_if_ne (tgt := 20) hx hb dX8_day_14 (by decide) (fun c => absurd (show (nI 0) = 0 by decide +kernel) c) (fun _ => ?_)
    refine lv_bipush (v := (-3)) hx hb dX8_day_17 (by decide +kernel) ?_
    exact g_iret (Qr := (q_m_day_f T n o seed n_ w0 g1 g2 g3 g4 tp w6 w7 w8 w9 w10 w11 w12 w13 w14 g15 w16 g17 w18 w19 g20 w21 g22 g23 g24 w25 w26 w27 g28 g29 w30 g31 g32 g33 fa fh)) hC V ⟨(Nat.le_of_ble_eq_true rfl), (Nat.le_of_ble_eq_true rfl)⟩ ⟨(-3), w16, fa, fh, rfl, rfl, ms0, (day_n (n := n) (f := fa) (x := seed) (tm_3 f_3) (by decide +kernel)).1, (day_n (n := n) (f := fa) (x := seed) (tm_3 f_3) (by decide +kernel)).2⟩ dX8_day_19
