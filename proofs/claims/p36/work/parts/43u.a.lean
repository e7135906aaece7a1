/-! who blows a fire, who is done -/
def blwF (f : Nat → Int32) (i : Nat) : Nat → Int32
  | 0 => nI 0
  | k + 1 => blwF f i k ||| (if f (84 + k) = nI i then nI 1 <<< (nI k &&& 31) else nI 0)
theorem bl_y {f : Nat → Int32} {i k : Nat} (h : f (84 + k) = nI i) : blwF f i k ||| (nI 1 <<< (nI k &&& 31)) = blwF f i (k + 1) := by show _ = blwF f i k ||| _; rw [if_pos h]
theorem bl_n {f : Nat → Int32} {i k : Nat} (h : ¬ f (84 + k) = nI i) : blwF f i k ||| nI 0 = blwF f i (k + 1) := by show _ = blwF f i k ||| _; rw [if_neg h]
def blA (n : Nat) (f : Nat → Int32) (i : Int32) : Int32 := if smP n i then blwF f i.toNatClampNeg n else -2
theorem blA_n {n : Nat} {f : Nat → Int32} {i : Int32} (h : i < 0 ∨ nI n ≤ i) : -2 = blA n f i := by unfold blA; rw [if_neg (fun q => q h)]
theorem blA_y {n j : Nat} {f : Nat → Int32} {i : Int32} (hn : n ≤ 10) (e : i = nI j) (hj : j < n) : blwF f j n = blA n f i := by unfold blA; rw [if_pos (smP_of e hj hn), e, nI_clamp (by omega)]
def unbF (n : Nat) (f : Nat → Int32) : Nat → Int32
  | 0 => nI 0
  | k + 1 => unbF n f k ||| (if blwF f k n = nI 0 then nI 1 <<< (nI k &&& 31) else nI 0)
theorem ub_y {n k : Nat} {f : Nat → Int32} {z : Int32} (e : z = blwF f k n) (h : z = 0) : unbF n f k ||| (nI 1 <<< (nI k &&& 31)) = unbF n f (k + 1) := by show _ = unbF n f k ||| _; rw [if_pos (show blwF f k n = nI 0 from e.symm.trans h)]
theorem ub_n {n k : Nat} {f : Nat → Int32} {z : Int32} (e : z = blwF f k n) (h : ¬ z = 0) : unbF n f k ||| nI 0 = unbF n f (k + 1) := by show _ = unbF n f k ||| _; rw [if_neg (show ¬ blwF f k n = nI 0 from fun q => h (e.trans q))]
theorem or_n0 (x : Int32) : x ||| nI 0 = x := Int32.or_zero
def donF (f : Nat → Int32) : Nat → Int32
  | 0 => nI 0
  | k + 1 => donF f k + (if f (64 + k) < f (54 + k) then nI 0 else nI 1)
theorem dn_y {f : Nat → Int32} {k : Nat} (h : ¬ f (64 + k) < f (54 + k)) : donF f k + nI 1 = donF f (k + 1) := by show _ = donF f k + _; rw [if_neg h]
theorem dn_n {f : Nat → Int32} {k : Nat} (h : f (64 + k) < f (54 + k)) : donF f k + nI 0 = donF f (k + 1) := by show _ = donF f k + _; rw [if_pos h]
/-! what CUSTOM brings -/
def cusA (n : Nat) (f : Nat → Int32) (v : Int32) : Int32 := if tmA 200 (f 1) v = nI 0 then donF (cuI n f (-1) v.toNatClampNeg) n else tmA 200 (f 1) v
theorem cus_n {n : Nat} {f : Nat → Int32} {v z : Int32} (h : z = tmA 200 (f 1) v) (hz : ¬ z = 0) : z = cusA n f v := by
  have q : ¬ tmA 200 (f 1) v = nI 0 := fun e => hz (h.trans e)
  unfold cusA; rw [if_neg q]; exact h
theorem cus_y {n j : Nat} {f : Nat → Int32} {v : Int32} (h : nI 0 = tmA 200 (f 1) v) (e : v = nI j) (hj : j < 1000) : donF (cuI n f (-1) j) n = cusA n f v := by
  unfold cusA; rw [if_pos h.symm, e, nI_clamp (by omega)]
def lzA (n : Nat) (f : Nat → Int32) (i v : Int32) : Int32 := if smP n i then (if tmA 200 (f 1) v = nI 0 then donF (cuI n f (-1) v.toNatClampNeg) n - donF (cuI n f i v.toNatClampNeg) n else tmA 200 (f 1) v) else -2
theorem lz_o {n : Nat} {f : Nat → Int32} {i v : Int32} (h : i < 0 ∨ nI n ≤ i) : -2 = lzA n f i v := by unfold lzA; rw [if_neg (fun q => q h)]
theorem lz_n {n k : Nat} {f : Nat → Int32} {i v z : Int32} (hn : n ≤ 10) (ei : i = nI k) (hk : k < n) (h : z = tmA 200 (f 1) v) (hz : ¬ z = 0) : z = lzA n f i v := by
  have q : ¬ tmA 200 (f 1) v = nI 0 := fun e => hz (h.trans e)
  unfold lzA; rw [if_pos (smP_of ei hk hn), if_neg q]; exact h
theorem lz_y {n j k : Nat} {f : Nat → Int32} {i v : Int32} (hn : n ≤ 10) (ei : i = nI k) (hk : k < n) (h : nI 0 = tmA 200 (f 1) v) (e : v = nI j) (hj : j < 1000) : donF (cuI n f (-1) j) n - donF (cuI n f (nI k) j) n = lzA n f i v := by
  unfold lzA; rw [if_pos (smP_of ei hk hn), if_pos h.symm, e, nI_clamp (by omega), ei]
theorem il_1 {n j : Nat} (hn : n ≤ 10) (hj : j < n) : ∀ i, i < n → (bitP (nI 1 <<< (nI j &&& 31)) i ↔ nI i = nI j) := by
  intro i hi
  have H : ∀ i j : Fin 10, bitP (nI 1 <<< (nI j.1 &&& 31)) i.1 ↔ nI i.1 = nI j.1 := by decide +kernel
  exact H ⟨i, by omega⟩ ⟨j, by omega⟩
/-! when a PIECE is done -/
def whnG (n : Nat) (f : Nat → Int32) (i : Nat) : Nat → Nat → Int32
  | 0, _ => -1
  | fu + 1, t => if cuI n f (-1) t (64 + i) < cuI n f (-1) t (54 + i) then whnG n f i fu (t + 1) else nI t
def whA (n : Nat) (f : Nat → Int32) (i : Int32) : Int32 := if smP n i then whnG n f i.toNatClampNeg 301 0 else -2
theorem wh_o {n : Nat} {f : Nat → Int32} {i : Int32} (h : i < 0 ∨ nI n ≤ i) : -2 = whA n f i := by unfold whA; rw [if_neg (fun q => q h)]
theorem wh_y {n j : Nat} {f : Nat → Int32} {i z : Int32} (hn : n ≤ 10) (e : i = nI j) (hj : j < n) (h : whnG n f j 301 0 = z) : z = whA n f i := by unfold whA; rw [if_pos (smP_of e hj hn), e, nI_clamp (by omega), h]
theorem wh_s {n i t : Nat} {f : Nat → Int32} (ht : t < 301) (h : cuI n f (-1) t (64 + i) < cuI n f (-1) t (54 + i)) : whnG n f i (301 - t) t = whnG n f i (301 - (t + 1)) (t + 1) := by
  rw [show 301 - t = (301 - (t + 1)) + 1 by omega]
  show (if _ then whnG n f i (301 - (t + 1)) (t + 1) else nI t) = _
  rw [if_pos h]
theorem wh_d {n i t : Nat} {f : Nat → Int32} (ht : t < 301) (h : ¬ cuI n f (-1) t (64 + i) < cuI n f (-1) t (54 + i)) : whnG n f i (301 - t) t = nI t := by
  rw [show 301 - t = (301 - (t + 1)) + 1 by omega]
  show (if _ then whnG n f i (301 - (t + 1)) (t + 1) else nI t) = _
  rw [if_neg h]
theorem wh_e {n i t : Nat} {f : Nat → Int32} (ht : ¬ t < 301) : whnG n f i (301 - t) t = -1 := by
  rw [show 301 - t = 0 by omega]; rfl

def q_s_blowersOf_f (T : Nat → ClassId) (fa : Nat → Int32) (a0 : Nat) (j : Nat) (an : Nat) (am : Int32) (al : Int32) (ao : Int32) (au : Int32) (a1 : Nat) (a2 : Nat) (a3 : Nat) (a4 : Nat) (a5 : Nat) (a6 : Nat) (a7 : Nat) (a8 : Nat) (a9 : Nat) (a10 : Nat) (af9 : Nat → Int32) : Option Value → va_W → Prop := fun rr ww => (∃ (z : Int32), rr = some (.int z) ∧ ww = [(a0, .inr (5, [.int (nI an), .int am, .int al, .int ao, .int au, .ref a1, .ref a2, .ref a3, .ref a4, .ref a5, .ref a6, .ref a7, .ref a8, .ref a9, .ref a10])), (a9, .inl (T 0, 10, .inl af9))] ∧ z = blwF fa j an)
set_option maxHeartbeats 4000000 in
set_option maxRecDepth 100000 in
theorem s_blowersOf_f (l : Launch) (D : va_G) (T : Nat → ClassId) (fa : Nat → Int32) (a0 : Nat) (j : Nat) (an : Nat) (am : Int32) (al : Int32) (ao : Int32) (au : Int32) (a1 : Nat) (a2 : Nat) (a3 : Nat) (a4 : Nat) (a5 : Nat) (a6 : Nat) (a7 : Nat) (a8 : Nat) (a9 : Nat) (a10 : Nat) (af9 : Nat → Int32) (h_n : an ≤ 10) (h_s9 : ∀ i, i < an → af9 i = fa (84 + i)) : Ct l yX5_blowersOf cX5_blowersOf 4 (some .int) 0 0 0 D T [.ref a0, .int (nI j)] [(a0, .inr (5, [.int (nI an), .int am, .int al, .int ao, .int au, .ref a1, .ref a2, .ref a3, .ref a4, .ref a5, .ref a6, .ref a7, .ref a8, .ref a9, .ref a10])), (a9, .inl (T 0, 10, .inl af9))] (q_s_blowersOf_f T fa a0 j an am al ao au a1 a2 a3 a4 a5 a6 a7 a8 a9 a10 af9) := by
  refine Ct.of (cc := cX5_blowersOf) (maxL := 4) (ret := (some .int)) (by decide) (Nat.le_of_ble_eq_true rfl) ?_
  intro p e s m args below meth c A ls hC hnm V hl
  obtain ⟨hx, hb, hr, hml, hown, hts, hlocks⟩ := id hC
  generalize hH : s.heap = H at V ⊢
  clear hH
  have hl : lv_has ls 4 [(0, .ref a0), (1, .int (nI j))] := hl
  generalize hlo : ([] : List Loc) = locs at V ⊢
  clear hlo
  refine lv_iconst (v := (nI 0)) hx hb dX5_blowersOf_0 (by decide +kernel) ?_
  refine lv_istore_n (lv' := [(2, .int (nI 0)), (0, .ref a0), (1, .int (nI j))]) hx hb dX5_blowersOf_1 rfl hl (by decide) rfl (fun ls hl => ?_)
  refine lv_iconst (v := (nI 0)) hx hb dX5_blowersOf_2 (by decide +kernel) ?_
  refine lv_istore_n (lv' := [(3, .int (nI 0)), (2, .int (nI 0)), (0, .ref a0), (1, .int (nI j))]) hx hb dX5_blowersOf_3 rfl hl (by decide) rfl (fun ls hl => ?_)
  have L_1 : ∀ (fu : Nat) (k4 : Nat) (x2 : Int32), k4 ≤ an → x2 = blwF fa j k4 → an - k4 < fu → ∀ (H : Heap) (locs : List Loc) (ls : Array Slot), gW D T A s [(a0, .inr (5, [.int (nI an), .int am, .int al, .int ao, .int au, .ref a1, .ref a2, .ref a3, .ref a4, .ref a5, .ref a6, .ref a7, .ref a8, .ref a9, .ref a10])), (a9, .inl (T 0, 10, .inl af9))] H locs → lv_has ls 4 [(3, .int (nI k4)), (2, .int x2), (0, .ref a0), (1, .int (nI j))] → W p l e (rmD 0 0 0) s m args below meth c H locs 0 0 (MQ below (gQ D A (q_s_blowersOf_f T fa a0 j an am al ao au a1 a2 a3 a4 a5 a6 a7 a8 a9 a10 af9)) args s 0 0 A) (F0 m 4 ls []) := by
    intro fu_4
    induction fu_4 with
    | zero => intro k4 x2 hk4 hx2 hmu; exact absurd hmu (Nat.not_lt_zero _)
    | succ fu_4 ih_4 =>
      intro k4 x2 hk4 hx2 hmu_4 H locs ls V hl
      refine lv_iload_n hx hb dX5_blowersOf_4 rfl (lv_at hl 0 rfl) ?_
      refine lv_aload_n hx hb dX5_blowersOf_5 rfl (lv_at hl 2 rfl) ?_
      refine g_get hC V (ci := 5) uwX5 0 rfl rfl 0 (by decide) w_33 rfl rfl dX5_blowersOf_6 ?_
      refine lv_icmp_ge (tgt := 38) hx hb dX5_blowersOf_9 (by decide) (fun c_2 => ?_) (fun c_2 => ?_)
      · skip
        have c_2 := b_le (by omega) (by omega) c_2
        refine lv_iload_n hx hb dX5_blowersOf_38 rfl (lv_at hl 1 rfl) ?_
        exact g_iret (Qr := (q_s_blowersOf_f T fa a0 j an am al ao au a1 a2 a3 a4 a5 a6 a7 a8 a9 a10 af9)) hC V ⟨(Nat.le_of_ble_eq_true rfl), (Nat.le_of_ble_eq_true rfl)⟩ ⟨x2, rfl, rfl, (by rw [hx2]; congr 1; omega)⟩ dX5_blowersOf_39
      · skip
        have c_2 := b_nle (by omega) (by omega) c_2
        refine lv_iload_n hx hb dX5_blowersOf_12 rfl (lv_at hl 1 rfl) ?_
        refine lv_aload_n hx hb dX5_blowersOf_13 rfl (lv_at hl 2 rfl) ?_
        refine g_get hC V (ci := 5) uwX5 0 rfl rfl 13 (by decide) w_82 rfl rfl dX5_blowersOf_14 ?_
        refine lv_iload_n hx hb dX5_blowersOf_17 rfl (lv_at hl 0 rfl) ?_
        refine g_iald hC V 1 rfl (vp_in_nI (by omega) (by omega)) (v := (af9 k4)) (congrArg _ (nI_clamp (by omega))) dX5_blowersOf_18 ?_
        refine lv_iload_n hx hb dX5_blowersOf_19 rfl (lv_at hl 3 rfl) ?_
        refine lv_icmp_ne (tgt := 29) hx hb dX5_blowersOf_20 (by decide) (fun c_3 => ?_) (fun c_3 => ?_)
        · skip
          refine lv_iconst (v := (nI 0)) hx hb dX5_blowersOf_29 (by decide +kernel) ?_
          refine lv_ior hx hb dX5_blowersOf_30 ?_
          refine lv_istore_n (lv' := [(2, .int (x2 ||| (nI 0))), (3, .int (nI k4)), (0, .ref a0), (1, .int (nI j))]) hx hb dX5_blowersOf_31 rfl hl (by decide) rfl (fun ls hl => ?_)
          refine lv_iinc (v := (nI (k4 + 1))) (lv' := [(3, .int (nI (k4 + 1))), (2, .int (x2 ||| (nI 0))), (0, .ref a0), (1, .int (nI j))]) hx hb dX5_blowersOf_32 hl (k := 1) rfl (nI_1 _) (by decide) rfl (fun ls hl => ?_)
          refine lv_goto (tgt := 4) hx hb dX5_blowersOf_35 (by decide) ?_
          exact ih_4 (k4 + 1) (x2 ||| (nI 0)) (by omega) (by rw [hx2]; exact bl_n (fun q => c_3 ((h_s9 _ (by omega)).trans q))) (by omega) _ _ _ V (lv_sub hl [0, 1, 2, 3] rfl)
        · skip
          refine lv_iconst (v := (nI 1)) hx hb dX5_blowersOf_23 (by decide +kernel) ?_
          refine lv_iload_n hx hb dX5_blowersOf_24 rfl (lv_at hl 0 rfl) ?_
          refine lv_ishl hx hb dX5_blowersOf_25 ?_
          refine lv_goto (tgt := 30) hx hb dX5_blowersOf_26 (by decide) ?_
          refine lv_ior hx hb dX5_blowersOf_30 ?_
          refine lv_istore_n (lv' := [(2, .int (x2 ||| ((nI 1) <<< ((nI k4) &&& 31)))), (3, .int (nI k4)), (0, .ref a0), (1, .int (nI j))]) hx hb dX5_blowersOf_31 rfl hl (by decide) rfl (fun ls hl => ?_)
          refine lv_iinc (v := (nI (k4 + 1))) (lv' := [(3, .int (nI (k4 + 1))), (2, .int (x2 ||| ((nI 1) <<< ((nI k4) &&& 31)))), (0, .ref a0), (1, .int (nI j))]) hx hb dX5_blowersOf_32 hl (k := 1) rfl (nI_1 _) (by decide) rfl (fun ls hl => ?_)
          refine lv_goto (tgt := 4) hx hb dX5_blowersOf_35 (by decide) ?_
          exact ih_4 (k4 + 1) (x2 ||| ((nI 1) <<< ((nI k4) &&& 31))) (by omega) (by rw [hx2]; exact bl_y ((h_s9 _ (by omega)).symm.trans c_3)) (by omega) _ _ _ V (lv_sub hl [0, 1, 2, 3] rfl)
  exact L_1 _ 0 (nI 0) (by omega) rfl (Nat.lt_succ_self _) _ _ _ V (lv_sub hl [0, 1, 2, 3] rfl)

def q_m_blowersOf_f (T : Nat → ClassId) (n : Nat) (o : Nat) (j : Nat) (w0 : Int32) (g1 : Nat) (g2 : Nat) (g3 : Nat) (g4 : Nat) (tp : Nat) (w6 : Int32) (w7 : Int32) (w8 : Int32) (w9 : Int32) (w10 : Int32) (w11 : Int32) (w12 : Int32) (w13 : Int32) (w14 : Int32) (g15 : Nat) (w16 : Int32) (g17 : Nat) (w18 : Int32) (w19 : Int32) (g20 : Nat) (w21 : Int32) (g22 : Nat) (g23 : Nat) (g24 : Nat) (w25 : Int32) (w26 : Int32) (w27 : Int32) (g28 : Nat) (g29 : Nat) (w30 : Int32) (g31 : Nat) (g32 : Nat) (g33 : Nat) (fa : Nat → Int32) : Option Value → va_W → Prop := fun rr ww => (∃ (z : Int32), rr = some (.int z) ∧ ww = [(o, .inr (8, [.int w0, .ref g1, .ref g2, .ref g3, .ref g4, .int (nI tp), .int w6, .int w7, .int w8, .int w9, .int w10, .int w11, .int w12, .int w13, .int w14, .ref g15, .int w16, .ref g17, .int w18, .int w19, .ref g20, .int w21, .ref g22, .ref g23, .ref g24, .int w25, .int w26, .int w27, .ref g28, .ref g29, .int w30, .ref g31, .ref g32, .ref g33])), (g1, .inl (T 0, 282, .inl fa))] ∧ z = blwF fa j n)
set_option maxHeartbeats 4000000 in
set_option maxRecDepth 100000 in
theorem m_blowersOf_f (l : Launch) (D : va_G) (T : Nat → ClassId) (n : Nat) (o : Nat) (j : Nat) (w0 : Int32) (g1 : Nat) (g2 : Nat) (g3 : Nat) (g4 : Nat) (tp : Nat) (w6 : Int32) (w7 : Int32) (w8 : Int32) (w9 : Int32) (w10 : Int32) (w11 : Int32) (w12 : Int32) (w13 : Int32) (w14 : Int32) (g15 : Nat) (w16 : Int32) (g17 : Nat) (w18 : Int32) (w19 : Int32) (g20 : Nat) (w21 : Int32) (g22 : Nat) (g23 : Nat) (g24 : Nat) (w25 : Int32) (w26 : Int32) (w27 : Int32) (g28 : Nat) (g29 : Nat) (w30 : Int32) (g31 : Nat) (g32 : Nat) (g33 : Nat) (fa : Nat → Int32) (h_a : MI n fa) : Ct l yX8_blowersOf cX8_blowersOf 4 (some .int) 0 0 0 D T [.ref o, .int (nI j)] [(o, .inr (8, [.int w0, .ref g1, .ref g2, .ref g3, .ref g4, .int (nI tp), .int w6, .int w7, .int w8, .int w9, .int w10, .int w11, .int w12, .int w13, .int w14, .ref g15, .int w16, .ref g17, .int w18, .int w19, .ref g20, .int w21, .ref g22, .ref g23, .ref g24, .int w25, .int w26, .int w27, .ref g28, .ref g29, .int w30, .ref g31, .ref g32, .ref g33])), (g1, .inl (T 0, 282, .inl fa))] (q_m_blowersOf_f T n o j w0 g1 g2 g3 g4 tp w6 w7 w8 w9 w10 w11 w12 w13 w14 g15 w16 g17 w18 w19 g20 w21 g22 g23 g24 w25 w26 w27 g28 g29 w30 g31 g32 g33 fa) := by
  refine Ct.of (cc := cX8_blowersOf) (maxL := 4) (ret := (some .int)) (by decide) (Nat.le_of_ble_eq_true rfl) ?_
  intro p e s m args below meth c A ls hC hnm V hl
  obtain ⟨hx, hb, hr, hml, hown, hts, hlocks⟩ := id hC
  generalize hH : s.heap = H at V ⊢
  clear hH
  have hl : lv_has ls 4 [(0, .ref o), (1, .int (nI j))] := hl
  generalize hlo : ([] : List Loc) = locs at V ⊢
  clear hlo
  have hn10 := h_a.1
  refine lv_iconst (v := (nI 0)) hx hb dX8_blowersOf_0 (by decide +kernel) ?_
  refine lv_istore_n (lv' := [(2, .int (nI 0)), (0, .ref o), (1, .int (nI j))]) hx hb dX8_blowersOf_1 rfl hl (by decide) rfl (fun ls hl => ?_)
  refine lv_iconst (v := (nI 0)) hx hb dX8_blowersOf_2 (by decide +kernel) ?_
  refine lv_istore_n (lv' := [(3, .int (nI 0)), (2, .int (nI 0)), (0, .ref o), (1, .int (nI j))]) hx hb dX8_blowersOf_3 rfl hl (by decide) rfl (fun ls hl => ?_)
  have L_1 : ∀ (fu : Nat) (k4 : Nat) (x2 : Int32), k4 ≤ n → x2 = blwF fa j k4 → n - k4 < fu → ∀ (H : Heap) (locs : List Loc) (ls : Array Slot), gW D T A s [(o, .inr (8, [.int w0, .ref g1, .ref g2, .ref g3, .ref g4, .int (nI tp), .int w6, .int w7, .int w8, .int w9, .int w10, .int w11, .int w12, .int w13, .int w14, .ref g15, .int w16, .ref g17, .int w18, .int w19, .ref g20, .int w21, .ref g22, .ref g23, .ref g24, .int w25, .int w26, .int w27, .ref g28, .ref g29, .int w30, .ref g31, .ref g32, .ref g33])), (g1, .inl (T 0, 282, .inl fa))] H locs → lv_has ls 4 [(3, .int (nI k4)), (2, .int x2), (0, .ref o), (1, .int (nI j))] → W p l e (rmD 0 0 0) s m args below meth c H locs 0 0 (MQ below (gQ D A (q_m_blowersOf_f T n o j w0 g1 g2 g3 g4 tp w6 w7 w8 w9 w10 w11 w12 w13 w14 g15 w16 g17 w18 w19 g20 w21 g22 g23 g24 w25 w26 w27 g28 g29 w30 g31 g32 g33 fa)) args s 0 0 A) (F0 m 4 ls []) := by
    intro fu_4
    induction fu_4 with
    | zero => intro k4 x2 hk4 hx2 hmu; exact absurd hmu (Nat.not_lt_zero _)
    | succ fu_4 ih_4 =>
      intro k4 x2 hk4 hx2 hmu_4 H locs ls V hl
      refine lv_iload_n hx hb dX8_blowersOf_4 rfl (lv_at hl 0 rfl) ?_
      refine lv_aload_n hx hb dX8_blowersOf_5 rfl (lv_at hl 2 rfl) ?_
      refine g_get hC V (ci := 8) uwX8 0 rfl rfl 1 (by decide) w_913 rfl rfl dX8_blowersOf_6 ?_
      refine lv_iconst (v := (nI 0)) hx hb dX8_blowersOf_9 (by decide +kernel) ?_
      refine g_iald hC V 1 rfl (vp_in_nI (by decide) (by decide)) (v := (nI n)) (by rw [nI_clamp (by decide)]; first | rfl | exact h_a.2.1) dX8_blowersOf_10 ?_
      refine lv_icmp_ge (tgt := 43) hx hb dX8_blowersOf_11 (by decide) (fun c_2 => ?_) (fun c_2 => ?_)
      · skip
        have c_2 := b_le (by omega) (by omega) c_2
        refine lv_iload_n hx hb dX8_blowersOf_43 rfl (lv_at hl 1 rfl) ?_
        exact g_iret (Qr := (q_m_blowersOf_f T n o j w0 g1 g2 g3 g4 tp w6 w7 w8 w9 w10 w11 w12 w13 w14 g15 w16 g17 w18 w19 g20 w21 g22 g23 g24 w25 w26 w27 g28 g29 w30 g31 g32 g33 fa)) hC V ⟨(Nat.le_of_ble_eq_true rfl), (Nat.le_of_ble_eq_true rfl)⟩ ⟨x2, rfl, rfl, (by rw [hx2]; congr 1; omega)⟩ dX8_blowersOf_44
      · skip
        have c_2 := b_nle (by omega) (by omega) c_2
        refine lv_iload_n hx hb dX8_blowersOf_14 rfl (lv_at hl 1 rfl) ?_
        refine lv_aload_n hx hb dX8_blowersOf_15 rfl (lv_at hl 2 rfl) ?_
        refine g_get hC V (ci := 8) uwX8 0 rfl rfl 1 (by decide) w_913 rfl rfl dX8_blowersOf_16 ?_
        refine lv_bipush (v := (nI 84)) hx hb dX8_blowersOf_19 (by decide +kernel) ?_
        refine lv_iload_n hx hb dX8_blowersOf_21 rfl (lv_at hl 0 rfl) ?_
        refine lv_iadd hx hb dX8_blowersOf_22 ?_
        refine g_vi (y := (nI (84 + k4))) (nI_add _ _) ?_
        refine g_iald hC V 1 rfl (vp_in_nI (by omega) (by omega)) (v := (fa (84 + k4))) (congrArg _ (nI_clamp (by omega))) dX8_blowersOf_23 ?_
        refine lv_iload_n hx hb dX8_blowersOf_24 rfl (lv_at hl 3 rfl) ?_
        refine lv_icmp_ne (tgt := 34) hx hb dX8_blowersOf_25 (by decide) (fun c_3 => ?_) (fun c_3 => ?_)
        · skip
          refine lv_iconst (v := (nI 0)) hx hb dX8_blowersOf_34 (by decide +kernel) ?_
          refine lv_ior hx hb dX8_blowersOf_35 ?_
          refine lv_istore_n (lv' := [(2, .int (x2 ||| (nI 0))), (3, .int (nI k4)), (0, .ref o), (1, .int (nI j))]) hx hb dX8_blowersOf_36 rfl hl (by decide) rfl (fun ls hl => ?_)
          refine lv_iinc (v := (nI (k4 + 1))) (lv' := [(3, .int (nI (k4 + 1))), (2, .int (x2 ||| (nI 0))), (0, .ref o), (1, .int (nI j))]) hx hb dX8_blowersOf_37 hl (k := 1) rfl (nI_1 _) (by decide) rfl (fun ls hl => ?_)
          refine lv_goto (tgt := 4) hx hb dX8_blowersOf_40 (by decide) ?_
          exact ih_4 (k4 + 1) (x2 ||| (nI 0)) (by omega) (by rw [hx2]; exact bl_n c_3) (by omega) _ _ _ V (lv_sub hl [0, 1, 2, 3] rfl)
        · skip
          refine lv_iconst (v := (nI 1)) hx hb dX8_blowersOf_28 (by decide +kernel) ?_
          refine lv_iload_n hx hb dX8_blowersOf_29 rfl (lv_at hl 0 rfl) ?_
          refine lv_ishl hx hb dX8_blowersOf_30 ?_
          refine lv_goto (tgt := 35) hx hb dX8_blowersOf_31 (by decide) ?_
          refine lv_ior hx hb dX8_blowersOf_35 ?_
          refine lv_istore_n (lv' := [(2, .int (x2 ||| ((nI 1) <<< ((nI k4) &&& 31)))), (3, .int (nI k4)), (0, .ref o), (1, .int (nI j))]) hx hb dX8_blowersOf_36 rfl hl (by decide) rfl (fun ls hl => ?_)
          refine lv_iinc (v := (nI (k4 + 1))) (lv' := [(3, .int (nI (k4 + 1))), (2, .int (x2 ||| ((nI 1) <<< ((nI k4) &&& 31)))), (0, .ref o), (1, .int (nI j))]) hx hb dX8_blowersOf_37 hl (k := 1) rfl (nI_1 _) (by decide) rfl (fun ls hl => ?_)
          refine lv_goto (tgt := 4) hx hb dX8_blowersOf_40 (by decide) ?_
          exact ih_4 (k4 + 1) (x2 ||| ((nI 1) <<< ((nI k4) &&& 31))) (by omega) (by rw [hx2]; exact bl_y c_3) (by omega) _ _ _ V (lv_sub hl [0, 1, 2, 3] rfl)
  exact L_1 _ 0 (nI 0) (by omega) rfl (Nat.lt_succ_self _) _ _ _ V (lv_sub hl [0, 1, 2, 3] rfl)

def q_x_blowers_f (T : Nat → ClassId) (nf1 : Nat → Int32) (nf2 : Nat → Int32) (nf3 : Nat → Int32) (nf4 : Nat → Int32) (nf5 : Nat → Int32) (nf6 : Nat → Int32) (nf7 : Nat → Int32) (fa : Nat → Int32) (o : Nat) (i : Int32) (n0 : Nat) (s0 : Nat) (im : Nat) (iz : Nat) (rw : Nat) (t0 : Nat) (u0 : Nat) (h0 : Nat) (y0 : Nat) (sv : Value) (nn : Nat) (nm : Int32) (nl : Int32) (no : Int32) (nu : Int32) (n1 : Nat) (n2 : Nat) (n3 : Nat) (n4 : Nat) (n5 : Nat) (n6 : Nat) (n7 : Nat) (n8 : Nat) (n9 : Nat) (n10 : Nat) (nf9 : Nat → Int32) : Option Value → va_W → Prop := fun rr ww => (∃ (z : Int32), rr = some (.int z) ∧ ww = [(o, .inr (7, [.ref n0, .ref s0, .ref im, .ref iz, .ref rw, .ref t0, .ref u0, .ref h0, .ref y0, sv])), (n0, .inr (5, [.int (nI nn), .int nm, .int nl, .int no, .int nu, .ref n1, .ref n2, .ref n3, .ref n4, .ref n5, .ref n6, .ref n7, .ref n8, .ref n9, .ref n10])), (n9, .inl (T 0, 10, .inl nf9))] ∧ z = blA nn fa i)
set_option maxHeartbeats 4000000 in
set_option maxRecDepth 100000 in
theorem x_blowers_f (l : Launch) (D : va_G) (T : Nat → ClassId) (nf1 : Nat → Int32) (nf2 : Nat → Int32) (nf3 : Nat → Int32) (nf4 : Nat → Int32) (nf5 : Nat → Int32) (nf6 : Nat → Int32) (nf7 : Nat → Int32) (fa : Nat → Int32) (o : Nat) (i : Int32) (n0 : Nat) (s0 : Nat) (im : Nat) (iz : Nat) (rw : Nat) (t0 : Nat) (u0 : Nat) (h0 : Nat) (y0 : Nat) (sv : Value) (nn : Nat) (nm : Int32) (nl : Int32) (no : Int32) (nu : Int32) (n1 : Nat) (n2 : Nat) (n3 : Nat) (n4 : Nat) (n5 : Nat) (n6 : Nat) (n7 : Nat) (n8 : Nat) (n9 : Nat) (n10 : Nat) (nf9 : Nat → Int32) (h_n : nn ≤ 10) (h_sr : SR nn nm nl no nf1 nf2 nf3 nf4 nf5 nf6 nf7 nf9 fa) : Ct l yX7_blowers cX7_blowers 2 (some .int) 1 0 0 D T [.ref o, .int i] [(o, .inr (7, [.ref n0, .ref s0, .ref im, .ref iz, .ref rw, .ref t0, .ref u0, .ref h0, .ref y0, sv])), (n0, .inr (5, [.int (nI nn), .int nm, .int nl, .int no, .int nu, .ref n1, .ref n2, .ref n3, .ref n4, .ref n5, .ref n6, .ref n7, .ref n8, .ref n9, .ref n10])), (n9, .inl (T 0, 10, .inl nf9))] (q_x_blowers_f T nf1 nf2 nf3 nf4 nf5 nf6 nf7 fa o i n0 s0 im iz rw t0 u0 h0 y0 sv nn nm nl no nu n1 n2 n3 n4 n5 n6 n7 n8 n9 n10 nf9) := by
  refine Ct.of (cc := cX7_blowers) (maxL := 2) (ret := (some .int)) (by decide) (Nat.le_of_ble_eq_true rfl) ?_
  intro p e s m args below meth c A ls hC hnm V hl
  obtain ⟨hx, hb, hr, hml, hown, hts, hlocks⟩ := id hC
  generalize hH : s.heap = H at V ⊢
  clear hH
  have hl : lv_has ls 2 [(0, .ref o), (1, .int i)] := hl
  generalize hlo : ([] : List Loc) = locs at V ⊢
  clear hlo
  refine lv_aload_n hx hb dX7_blowers_0 rfl (lv_at hl 0 rfl) ?_
  refine g_get hC V (ci := 7) uwX7 0 rfl rfl 0 (by decide) w_249 rfl rfl dX7_blowers_1 ?_
  refine lv_iload_n hx hb dX7_blowers_4 rfl (lv_at hl 1 rfl) ?_
  refine g_callVU (nA := 1) hC V hl.1 (s_isSmith l D T n0 i nn nm nl no nu n1 n2 n3 n4 n5 n6 n7 n8 n9 n10 (by first | assumption | omega)) w_425 w_426 w_427 w_3 w_428 (by decide +kernel) rfl ⟨(Nat.le_of_ble_eq_true rfl), (Nat.le_of_ble_eq_true rfl)⟩ 1 (ci := 5) rfl rfl [1] rfl rfl (Nat.le_of_ble_eq_true rfl) dX7_blowers_5 ⟨(Nat.le_of_ble_eq_true rfl), (Nat.le_of_ble_eq_true rfl)⟩ rfl (fun r w1 H locs hQ V => ?_)
  rcases hQ with ⟨j_1, rfl, rfl, f_2, f_3⟩ | ⟨rfl, rfl, f_4⟩
  · have V : gW D T A s [(o, .inr (7, [.ref n0, .ref s0, .ref im, .ref iz, .ref rw, .ref t0, .ref u0, .ref h0, .ref y0, sv])), (n0, .inr (5, [.int (nI nn), .int nm, .int nl, .int no, .int nu, .ref n1, .ref n2, .ref n3, .ref n4, .ref n5, .ref n6, .ref n7, .ref n8, .ref n9, .ref n10])), (n9, .inl (T 0, 10, .inl nf9))] H locs := V _ [1] rfl rfl rfl (by decide +kernel) rfl
    show W p l e _ s m args below meth c H locs _ _ _ (F0 m 8 ls [.int (nI 1)])
    rw [f_2] at hl
    refine lv_if_eq (tgt := 22) hx hb dX7_blowers_8 (by decide) (fun c => absurd (show (nI 1) = 0 from c) (by decide +kernel)) (fun _ => ?_)
    refine lv_aload_n hx hb dX7_blowers_11 rfl (lv_at hl 0 rfl) ?_
    refine g_get hC V (ci := 7) uwX7 0 rfl rfl 0 (by decide) w_249 rfl rfl dX7_blowers_12 ?_
    refine lv_iload_n hx hb dX7_blowers_15 rfl (lv_at hl 1 rfl) ?_
    refine g_callVU (nA := 1) hC V hl.1 (s_blowersOf_f l D T fa n0 j_1 nn nm nl no nu n1 n2 n3 n4 n5 n6 n7 n8 n9 n10 nf9 (by first | assumption | omega) (fun i hi => (h_sr.2.2.2.2 i hi).2.2.2.2.2.2.2)) w_437 w_438 w_439 w_3 w_440 (by decide +kernel) rfl ⟨(Nat.le_of_ble_eq_true rfl), (Nat.le_of_ble_eq_true rfl)⟩ 1 (ci := 5) rfl rfl [1, 2] rfl rfl (Nat.le_of_ble_eq_true rfl) dX7_blowers_16 ⟨(Nat.le_of_ble_eq_true rfl), (Nat.le_of_ble_eq_true rfl)⟩ rfl (fun r w1 H locs hQ V => ?_)
    obtain ⟨z_5, rfl, rfl, f_6⟩ := hQ
    have V : gW D T A s [(o, .inr (7, [.ref n0, .ref s0, .ref im, .ref iz, .ref rw, .ref t0, .ref u0, .ref h0, .ref y0, sv])), (n0, .inr (5, [.int (nI nn), .int nm, .int nl, .int no, .int nu, .ref n1, .ref n2, .ref n3, .ref n4, .ref n5, .ref n6, .ref n7, .ref n8, .ref n9, .ref n10])), (n9, .inl (T 0, 10, .inl nf9))] H locs := V _ [1, 0] rfl rfl rfl (by decide +kernel) rfl
    show W p l e _ s m args below meth c H locs _ _ _ (F0 m 19 ls [.int z_5])
    refine lv_goto (tgt := 24) hx hb dX7_blowers_19 (by decide) ?_
    exact g_iret (Qr := (q_x_blowers_f T nf1 nf2 nf3 nf4 nf5 nf6 nf7 fa o i n0 s0 im iz rw t0 u0 h0 y0 sv nn nm nl no nu n1 n2 n3 n4 n5 n6 n7 n8 n9 n10 nf9)) hC V ⟨(Nat.le_of_ble_eq_true rfl), (Nat.le_of_ble_eq_true rfl)⟩ ⟨z_5, rfl, rfl, (f_6.trans (blA_y h_n f_2 f_3))⟩ dX7_blowers_24
  · have V : gW D T A s [(o, .inr (7, [.ref n0, .ref s0, .ref im, .ref iz, .ref rw, .ref t0, .ref u0, .ref h0, .ref y0, sv])), (n0, .inr (5, [.int (nI nn), .int nm, .int nl, .int no, .int nu, .ref n1, .ref n2, .ref n3, .ref n4, .ref n5, .ref n6, .ref n7, .ref n8, .ref n9, .ref n10])), (n9, .inl (T 0, 10, .inl nf9))] H locs := V _ [1] rfl rfl rfl (by decide +kernel) rfl
    show W p l e _ s m args below meth c H locs _ _ _ (F0 m 8 ls [.int (nI 0)])
    refine lv_if_eq (tgt := 22) hx hb dX7_blowers_8 (by decide) (fun _ => ?_) (fun c => absurd (show (nI 0) = 0 by decide +kernel) c)
    refine lv_bipush (v := (-2)) hx hb dX7_blowers_22 (by decide +kernel) ?_
    exact g_iret (Qr := (q_x_blowers_f T nf1 nf2 nf3 nf4 nf5 nf6 nf7 fa o i n0 s0 im iz rw t0 u0 h0 y0 sv nn nm nl no nu n1 n2 n3 n4 n5 n6 n7 n8 n9 n10 nf9)) hC V ⟨(Nat.le_of_ble_eq_true rfl), (Nat.le_of_ble_eq_true rfl)⟩ ⟨(-2), rfl, rfl, (blA_n f_4)⟩ dX7_blowers_24

def q_m_blowers_f (T : Nat → ClassId) (n : Nat) (o : Nat) (i : Int32) (w0 : Int32) (g1 : Nat) (g2 : Nat) (g3 : Nat) (g4 : Nat) (tp : Nat) (w6 : Int32) (w7 : Int32) (w8 : Int32) (w9 : Int32) (w10 : Int32) (w11 : Int32) (w12 : Int32) (w13 : Int32) (w14 : Int32) (g15 : Nat) (w16 : Int32) (g17 : Nat) (w18 : Int32) (w19 : Int32) (g20 : Nat) (w21 : Int32) (g22 : Nat) (g23 : Nat) (g24 : Nat) (w25 : Int32) (w26 : Int32) (w27 : Int32) (g28 : Nat) (g29 : Nat) (w30 : Int32) (g31 : Nat) (g32 : Nat) (g33 : Nat) (fa : Nat → Int32) : Option Value → va_W → Prop := fun rr ww => (∃ (z : Int32), rr = some (.int z) ∧ ww = [(o, .inr (8, [.int (nI 0), .ref g1, .ref g2, .ref g3, .ref g4, .int (nI tp), .int w6, .int w7, .int w8, .int w9, .int w10, .int w11, .int w12, .int w13, .int w14, .ref g15, .int w16, .ref g17, .int w18, .int w19, .ref g20, .int w21, .ref g22, .ref g23, .ref g24, .int w25, .int w26, .int w27, .ref g28, .ref g29, .int w30, .ref g31, .ref g32, .ref g33])), (g1, .inl (T 0, 282, .inl fa))] ∧ z = blA n fa i)
set_option maxHeartbeats 4000000 in
set_option maxRecDepth 100000 in
theorem m_blowers_f (l : Launch) (D : va_G) (T : Nat → ClassId) (n : Nat) (o : Nat) (i : Int32) (w0 : Int32) (g1 : Nat) (g2 : Nat) (g3 : Nat) (g4 : Nat) (tp : Nat) (w6 : Int32) (w7 : Int32) (w8 : Int32) (w9 : Int32) (w10 : Int32) (w11 : Int32) (w12 : Int32) (w13 : Int32) (w14 : Int32) (g15 : Nat) (w16 : Int32) (g17 : Nat) (w18 : Int32) (w19 : Int32) (g20 : Nat) (w21 : Int32) (g22 : Nat) (g23 : Nat) (g24 : Nat) (w25 : Int32) (w26 : Int32) (w27 : Int32) (g28 : Nat) (g29 : Nat) (w30 : Int32) (g31 : Nat) (g32 : Nat) (g33 : Nat) (fa : Nat → Int32) (h_a : MI n fa) : Ct l yX8_blowers cX8_blowers 2 (some .int) 2 0 0 D T [.ref o, .int i] [(o, .inr (8, [.int w0, .ref g1, .ref g2, .ref g3, .ref g4, .int (nI tp), .int w6, .int w7, .int w8, .int w9, .int w10, .int w11, .int w12, .int w13, .int w14, .ref g15, .int w16, .ref g17, .int w18, .int w19, .ref g20, .int w21, .ref g22, .ref g23, .ref g24, .int w25, .int w26, .int w27, .ref g28, .ref g29, .int w30, .ref g31, .ref g32, .ref g33])), (g1, .inl (T 0, 282, .inl fa))] (q_m_blowers_f T n o i w0 g1 g2 g3 g4 tp w6 w7 w8 w9 w10 w11 w12 w13 w14 g15 w16 g17 w18 w19 g20 w21 g22 g23 g24 w25 w26 w27 g28 g29 w30 g31 g32 g33 fa) := by
  refine Ct.of (cc := cX8_blowers) (maxL := 2) (ret := (some .int)) (by decide) (Nat.le_of_ble_eq_true rfl) ?_
  intro p e s m args below meth c A ls hC hnm V hl
  obtain ⟨hx, hb, hr, hml, hown, hts, hlocks⟩ := id hC
  generalize hH : s.heap = H at V ⊢
  clear hH
  have hl : lv_has ls 2 [(0, .ref o), (1, .int i)] := hl
  generalize hlo : ([] : List Loc) = locs at V ⊢
  clear hlo
  have ms0 := ms_rf h_a
  have hn10 := h_a.1
  refine lv_aload_n hx hb dX8_blowers_0 rfl (lv_at hl 0 rfl) ?_
  refine lv_iconst (v := (nI 0)) hx hb dX8_blowers_1 (by decide +kernel) ?_
  refine g_put hC V (ci := 8) uwX8 tyX8 tyX8_ok nmX8 0 rfl rfl 0 (by decide) w_912 rfl rfl rfl rfl (Nat.le_of_ble_eq_true rfl) (ws' := [(o, .inr (8, [.int (nI 0), .ref g1, .ref g2, .ref g3, .ref g4, .int (nI tp), .int w6, .int w7, .int w8, .int w9, .int w10, .int w11, .int w12, .int w13, .int w14, .ref g15, .int w16, .ref g17, .int w18, .int w19, .ref g20, .int w21, .ref g22, .ref g23, .ref g24, .int w25, .int w26, .int w27, .ref g28, .ref g29, .int w30, .ref g31, .ref g32, .ref g33])), (g1, .inl (T 0, 282, .inl fa))]) rfl dX8_blowers_2 (fun H locs V => ?_)
  refine lv_aload_n hx hb dX8_blowers_5 rfl (lv_at hl 0 rfl) ?_
  refine lv_iload_n hx hb dX8_blowers_6 rfl (lv_at hl 1 rfl) ?_
  refine g_callV (wr := []) (nA := 1) hC V hl.1 (m_isSmith_f l D T n o i (nI 0) g1 g2 g3 g4 tp w6 w7 w8 w9 w10 w11 w12 w13 w14 g15 w16 g17 w18 w19 g20 w21 g22 g23 g24 w25 w26 w27 g28 g29 w30 g31 g32 g33 fa h_a) w_1083 w_1085 w_s46 w_9 w_1086 (by decide +kernel) rfl ⟨(Nat.le_of_ble_eq_true rfl), (Nat.le_of_ble_eq_true rfl)⟩ 0 (ci := 8) rfl rfl [0, 1] [] rfl rfl rfl rfl (by decide) (Nat.le_of_ble_eq_true rfl) dX8_blowers_7 ⟨(Nat.le_of_ble_eq_true rfl), (Nat.le_of_ble_eq_true rfl)⟩ rfl (fun r w1 H locs hQ V => ?_)
  rcases hQ with ⟨j_1, rfl, rfl, f_2, f_3⟩ | ⟨rfl, rfl, f_4⟩
  · have V : gW D T A s [(o, .inr (8, [.int (nI 0), .ref g1, .ref g2, .ref g3, .ref g4, .int (nI tp), .int w6, .int w7, .int w8, .int w9, .int w10, .int w11, .int w12, .int w13, .int w14, .ref g15, .int w16, .ref g17, .int w18, .int w19, .ref g20, .int w21, .ref g22, .ref g23, .ref g24, .int w25, .int w26, .int w27, .ref g28, .ref g29, .int w30, .ref g31, .ref g32, .ref g33])), (g1, .inl (T 0, 282, .inl fa))] H locs := V
    show W p l e _ s m args below meth c H locs _ _ _ (F0 m 10 ls [.int (nI 1)])
    rw [f_2] at hl
    refine lv_if_eq (tgt := 21) hx hb dX8_blowers_10 (by decide) (fun c => absurd (show (nI 1) = 0 from c) (by decide +kernel)) (fun _ => ?_)
    refine lv_aload_n hx hb dX8_blowers_13 rfl (lv_at hl 0 rfl) ?_
    refine lv_iload_n hx hb dX8_blowers_14 rfl (lv_at hl 1 rfl) ?_
    refine g_callV (wr := []) (nA := 1) hC V hl.1 (m_blowersOf_f l D T n o j_1 (nI 0) g1 g2 g3 g4 tp w6 w7 w8 w9 w10 w11 w12 w13 w14 g15 w16 g17 w18 w19 g20 w21 g22 g23 g24 w25 w26 w27 g28 g29 w30 g31 g32 g33 fa h_a) w_1096 w_1098 w_s48 w_9 w_1099 (by decide +kernel) rfl ⟨(Nat.le_of_ble_eq_true rfl), (Nat.le_of_ble_eq_true rfl)⟩ 0 (ci := 8) rfl rfl [0, 1] [] rfl rfl rfl rfl (by decide) (Nat.le_of_ble_eq_true rfl) dX8_blowers_15 ⟨(Nat.le_of_ble_eq_true rfl), (Nat.le_of_ble_eq_true rfl)⟩ rfl (fun r w1 H locs hQ V => ?_)
    obtain ⟨z_5, rfl, rfl, f_6⟩ := hQ
    have V : gW D T A s [(o, .inr (8, [.int (nI 0), .ref g1, .ref g2, .ref g3, .ref g4, .int (nI tp), .int w6, .int w7, .int w8, .int w9, .int w10, .int w11, .int w12, .int w13, .int w14, .ref g15, .int w16, .ref g17, .int w18, .int w19, .ref g20, .int w21, .ref g22, .ref g23, .ref g24, .int w25, .int w26, .int w27, .ref g28, .ref g29, .int w30, .ref g31, .ref g32, .ref g33])), (g1, .inl (T 0, 282, .inl fa))] H locs := V
    show W p l e _ s m args below meth c H locs _ _ _ (F0 m 18 ls [.int z_5])
    refine lv_goto (tgt := 23) hx hb dX8_blowers_18 (by decide) ?_
    exact g_iret (Qr := (q_m_blowers_f T n o i w0 g1 g2 g3 g4 tp w6 w7 w8 w9 w10 w11 w12 w13 w14 g15 w16 g17 w18 w19 g20 w21 g22 g23 g24 w25 w26 w27 g28 g29 w30 g31 g32 g33 fa)) hC V ⟨(Nat.le_of_ble_eq_true rfl), (Nat.le_of_ble_eq_true rfl)⟩ ⟨z_5, rfl, rfl, (f_6.trans (blA_y hn10 f_2 f_3))⟩ dX8_blowers_23
  · have V : gW D T A s [(o, .inr (8, [.int (nI 0), .ref g1, .ref g2, .ref g3, .ref g4, .int (nI tp), .int w6, .int w7, .int w8, .int w9, .int w10, .int w11, .int w12, .int w13, .int w14, .ref g15, .int w16, .ref g17, .int w18, .int w19, .ref g20, .int w21, .ref g22, .ref g23, .ref g24, .int w25, .int w26, .int w27, .ref g28, .ref g29, .int w30, .ref g31, .ref g32, .ref g33])), (g1, .inl (T 0, 282, .inl fa))] H locs := V
    show W p l e _ s m args below meth c H locs _ _ _ (F0 m 10 ls [.int (nI 0)])
    refine lv_if_eq (tgt := 21) hx hb dX8_blowers_10 (by decide) (fun _ => ?_) (fun c => absurd (show (nI 0) = 0 by decide +kernel) c)
    refine lv_bipush (v := (-2)) hx hb dX8_blowers_21 (by decide +kernel) ?_
    exact g_iret (Qr := (q_m_blowers_f T n o i w0 g1 g2 g3 g4 tp w6 w7 w8 w9 w10 w11 w12 w13 w14 g15 w16 g17 w18 w19 g20 w21 g22 g23 g24 w25 w26 w27 g28 g29 w30 g31 g32 g33 fa)) hC V ⟨(Nat.le_of_ble_eq_true rfl), (Nat.le_of_ble_eq_true rfl)⟩ ⟨(-2), rfl, rfl, (blA_n f_4)⟩ dX8_blowers_23

def q_x_unblown_f (T : Nat → ClassId) (nf1 : Nat → Int32) (nf2 : Nat → Int32) (nf3 : Nat → Int32) (nf4 : Nat → Int32) (nf5 : Nat → Int32) (nf6 : Nat → Int32) (nf7 : Nat → Int32) (fa : Nat → Int32) (o : Nat) (n0 : Nat) (s0 : Nat) (im : Nat) (iz : Nat) (rw : Nat) (t0 : Nat) (u0 : Nat) (h0 : Nat) (y0 : Nat) (sv : Value) (nn : Nat) (nm : Int32) (nl : Int32) (no : Int32) (nu : Int32) (n1 : Nat) (n2 : Nat) (n3 : Nat) (n4 : Nat) (n5 : Nat) (n6 : Nat) (n7 : Nat) (n8 : Nat) (n9 : Nat) (n10 : Nat) (nf9 : Nat → Int32) : Option Value → va_W → Prop := fun rr ww => (∃ (z : Int32), rr = some (.int z) ∧ ww = [(o, .inr (7, [.ref n0, .ref s0, .ref im, .ref iz, .ref rw, .ref t0, .ref u0, .ref h0, .ref y0, sv])), (n0, .inr (5, [.int (nI nn), .int nm, .int nl, .int no, .int nu, .ref n1, .ref n2, .ref n3, .ref n4, .ref n5, .ref n6, .ref n7, .ref n8, .ref n9, .ref n10])), (n9, .inl (T 0, 10, .inl nf9))] ∧ z = unbF nn fa nn)
set_option maxHeartbeats 4000000 in
set_option maxRecDepth 100000 in
theorem x_unblown_f (l : Launch) (D : va_G) (T : Nat → ClassId) (nf1 : Nat → Int32) (nf2 : Nat → Int32) (nf3 : Nat → Int32) (nf4 : Nat → Int32) (nf5 : Nat → Int32) (nf6 : Nat → Int32) (nf7 : Nat → Int32) (fa : Nat → Int32) (o : Nat) (n0 : Nat) (s0 : Nat) (im : Nat) (iz : Nat) (rw : Nat) (t0 : Nat) (u0 : Nat) (h0 : Nat) (y0 : Nat) (sv : Value) (nn : Nat) (nm : Int32) (nl : Int32) (no : Int32) (nu : Int32) (n1 : Nat) (n2 : Nat) (n3 : Nat) (n4 : Nat) (n5 : Nat) (n6 : Nat) (n7 : Nat) (n8 : Nat) (n9 : Nat) (n10 : Nat) (nf9 : Nat → Int32) (h_n : nn ≤ 10) (h_sr : SR nn nm nl no nf1 nf2 nf3 nf4 nf5 nf6 nf7 nf9 fa) : Ct l yX7_unblown cX7_unblown 3 (some .int) 1 0 0 D T [.ref o] [(o, .inr (7, [.ref n0, .ref s0, .ref im, .ref iz, .ref rw, .ref t0, .ref u0, .ref h0, .ref y0, sv])), (n0, .inr (5, [.int (nI nn), .int nm, .int nl, .int no, .int nu, .ref n1, .ref n2, .ref n3, .ref n4, .ref n5, .ref n6, .ref n7, .ref n8, .ref n9, .ref n10])), (n9, .inl (T 0, 10, .inl nf9))] (q_x_unblown_f T nf1 nf2 nf3 nf4 nf5 nf6 nf7 fa o n0 s0 im iz rw t0 u0 h0 y0 sv nn nm nl no nu n1 n2 n3 n4 n5 n6 n7 n8 n9 n10 nf9) := by
  refine Ct.of (cc := cX7_unblown) (maxL := 3) (ret := (some .int)) (by decide) (Nat.le_of_ble_eq_true rfl) ?_
  intro p e s m args below meth c A ls hC hnm V hl
  obtain ⟨hx, hb, hr, hml, hown, hts, hlocks⟩ := id hC
  generalize hH : s.heap = H at V ⊢
  clear hH
  have hl : lv_has ls 3 [(0, .ref o)] := hl
  generalize hlo : ([] : List Loc) = locs at V ⊢
  clear hlo
  refine lv_iconst (v := (nI 0)) hx hb dX7_unblown_0 (by decide +kernel) ?_
  refine lv_istore_n (lv' := [(1, .int (nI 0)), (0, .ref o)]) hx hb dX7_unblown_1 rfl hl (by decide) rfl (fun ls hl => ?_)
  refine lv_iconst (v := (nI 0)) hx hb dX7_unblown_2 (by decide +kernel) ?_
  refine lv_istore_n (lv' := [(2, .int (nI 0)), (1, .int (nI 0)), (0, .ref o)]) hx hb dX7_unblown_3 rfl hl (by decide) rfl (fun ls hl => ?_)
  have L_1 : ∀ (fu : Nat) (k4 : Nat) (x1 : Int32), k4 ≤ nn → x1 = unbF nn fa k4 → nn - k4 < fu → ∀ (H : Heap) (locs : List Loc) (ls : Array Slot), gW D T A s [(o, .inr (7, [.ref n0, .ref s0, .ref im, .ref iz, .ref rw, .ref t0, .ref u0, .ref h0, .ref y0, sv])), (n0, .inr (5, [.int (nI nn), .int nm, .int nl, .int no, .int nu, .ref n1, .ref n2, .ref n3, .ref n4, .ref n5, .ref n6, .ref n7, .ref n8, .ref n9, .ref n10])), (n9, .inl (T 0, 10, .inl nf9))] H locs → lv_has ls 3 [(2, .int (nI k4)), (1, .int x1), (0, .ref o)] → W p l e (rmD 1 0 0) s m args below meth c H locs 0 0 (MQ below (gQ D A (q_x_unblown_f T nf1 nf2 nf3 nf4 nf5 nf6 nf7 fa o n0 s0 im iz rw t0 u0 h0 y0 sv nn nm nl no nu n1 n2 n3 n4 n5 n6 n7 n8 n9 n10 nf9)) args s 0 0 A) (F0 m 4 ls []) := by
    intro fu_4
    induction fu_4 with
    | zero => intro k4 x1 hk4 hx1 hmu; exact absurd hmu (Nat.not_lt_zero _)
    | succ fu_4 ih_4 =>
      intro k4 x1 hk4 hx1 hmu_4 H locs ls V hl
      refine lv_iload_n hx hb dX7_unblown_4 rfl (lv_at hl 0 rfl) ?_
      refine lv_aload_n hx hb dX7_unblown_5 rfl (lv_at hl 2 rfl) ?_
      refine g_get hC V (ci := 7) uwX7 0 rfl rfl 0 (by decide) w_249 rfl rfl dX7_unblown_6 ?_
      refine g_get hC V (ci := 5) uwX5 1 rfl rfl 0 (by decide) w_38 rfl rfl dX7_unblown_9 ?_
      refine lv_icmp_ge (tgt := 38) hx hb dX7_unblown_12 (by decide) (fun c_2 => ?_) (fun c_2 => ?_)
      · skip
        have c_2 := b_le (by omega) (by omega) c_2
        refine lv_iload_n hx hb dX7_unblown_38 rfl (lv_at hl 1 rfl) ?_
        exact g_iret (Qr := (q_x_unblown_f T nf1 nf2 nf3 nf4 nf5 nf6 nf7 fa o n0 s0 im iz rw t0 u0 h0 y0 sv nn nm nl no nu n1 n2 n3 n4 n5 n6 n7 n8 n9 n10 nf9)) hC V ⟨(Nat.le_of_ble_eq_true rfl), (Nat.le_of_ble_eq_true rfl)⟩ ⟨x1, rfl, rfl, (by rw [hx1]; congr 1; omega)⟩ dX7_unblown_39
      · skip
        have c_2 := b_nle (by omega) (by omega) c_2
        refine lv_aload_n hx hb dX7_unblown_15 rfl (lv_at hl 2 rfl) ?_
        refine g_get hC V (ci := 7) uwX7 0 rfl rfl 0 (by decide) w_249 rfl rfl dX7_unblown_16 ?_
        refine lv_iload_n hx hb dX7_unblown_19 rfl (lv_at hl 0 rfl) ?_
        refine g_callVU (nA := 1) hC V hl.1 (s_blowersOf_f l D T fa n0 k4 nn nm nl no nu n1 n2 n3 n4 n5 n6 n7 n8 n9 n10 nf9 (by first | assumption | omega) (fun i hi => (h_sr.2.2.2.2 i hi).2.2.2.2.2.2.2)) w_437 w_438 w_439 w_3 w_440 (by decide +kernel) rfl ⟨(Nat.le_of_ble_eq_true rfl), (Nat.le_of_ble_eq_true rfl)⟩ 1 (ci := 5) rfl rfl [1, 2] rfl rfl (Nat.le_of_ble_eq_true rfl) dX7_unblown_20 ⟨(Nat.le_of_ble_eq_true rfl), (Nat.le_of_ble_eq_true rfl)⟩ rfl (fun r w1 H locs hQ V => ?_)
        obtain ⟨z_3, rfl, rfl, f_4⟩ := hQ
        have V : gW D T A s [(o, .inr (7, [.ref n0, .ref s0, .ref im, .ref iz, .ref rw, .ref t0, .ref u0, .ref h0, .ref y0, sv])), (n0, .inr (5, [.int (nI nn), .int nm, .int nl, .int no, .int nu, .ref n1, .ref n2, .ref n3, .ref n4, .ref n5, .ref n6, .ref n7, .ref n8, .ref n9, .ref n10])), (n9, .inl (T 0, 10, .inl nf9))] H locs := V _ [1, 0] rfl rfl rfl (by decide +kernel) rfl
        show W p l e _ s m args below meth c H locs _ _ _ (F0 m 23 ls [.int z_3])
        refine lv_if_ne (tgt := 32) hx hb dX7_unblown_23 (by decide) (fun c_5 => ?_) (fun c_5 => ?_)
        · skip
          refine lv_iinc (v := (nI (k4 + 1))) (lv' := [(2, .int (nI (k4 + 1))), (1, .int x1), (0, .ref o)]) hx hb dX7_unblown_32 hl (k := 0) rfl (nI_1 _) (by decide) rfl (fun ls hl => ?_)
          refine lv_goto (tgt := 4) hx hb dX7_unblown_35 (by decide) ?_
          exact ih_4 (k4 + 1) x1 (by omega) (by rw [hx1]; exact (or_n0 _).symm.trans (ub_n f_4 c_5)) (by omega) _ _ _ V (lv_sub hl [0, 1, 2] rfl)
        · skip
          refine lv_iload_n hx hb dX7_unblown_26 rfl (lv_at hl 1 rfl) ?_
          refine lv_iconst (v := (nI 1)) hx hb dX7_unblown_27 (by decide +kernel) ?_
          refine lv_iload_n hx hb dX7_unblown_28 rfl (lv_at hl 0 rfl) ?_
          refine lv_ishl hx hb dX7_unblown_29 ?_
          refine lv_ior hx hb dX7_unblown_30 ?_
          refine lv_istore_n (lv' := [(1, .int (x1 ||| ((nI 1) <<< ((nI k4) &&& 31)))), (2, .int (nI k4)), (0, .ref o)]) hx hb dX7_unblown_31 rfl hl (by decide) rfl (fun ls hl => ?_)
          refine lv_iinc (v := (nI (k4 + 1))) (lv' := [(2, .int (nI (k4 + 1))), (1, .int (x1 ||| ((nI 1) <<< ((nI k4) &&& 31)))), (0, .ref o)]) hx hb dX7_unblown_32 hl (k := 1) rfl (nI_1 _) (by decide) rfl (fun ls hl => ?_)
          refine lv_goto (tgt := 4) hx hb dX7_unblown_35 (by decide) ?_
          exact ih_4 (k4 + 1) (x1 ||| ((nI 1) <<< ((nI k4) &&& 31))) (by omega) (by rw [hx1]; exact ub_y f_4 c_5) (by omega) _ _ _ V (lv_sub hl [0, 1, 2] rfl)
  exact L_1 _ 0 (nI 0) (by omega) rfl (Nat.lt_succ_self _) _ _ _ V (lv_sub hl [0, 1, 2] rfl)

def q_m_unblown_f (T : Nat → ClassId) (n : Nat) (o : Nat) (w0 : Int32) (g1 : Nat) (g2 : Nat) (g3 : Nat) (g4 : Nat) (tp : Nat) (w6 : Int32) (w7 : Int32) (w8 : Int32) (w9 : Int32) (w10 : Int32) (w11 : Int32) (w12 : Int32) (w13 : Int32) (w14 : Int32) (g15 : Nat) (w16 : Int32) (g17 : Nat) (w18 : Int32) (w19 : Int32) (g20 : Nat) (w21 : Int32) (g22 : Nat) (g23 : Nat) (g24 : Nat) (w25 : Int32) (w26 : Int32) (w27 : Int32) (g28 : Nat) (g29 : Nat) (w30 : Int32) (g31 : Nat) (g32 : Nat) (g33 : Nat) (fa : Nat → Int32) : Option Value → va_W → Prop := fun rr ww => (∃ (z : Int32), rr = some (.int z) ∧ ww = [(o, .inr (8, [.int (nI 0), .ref g1, .ref g2, .ref g3, .ref g4, .int (nI tp), .int w6, .int w7, .int w8, .int w9, .int w10, .int w11, .int w12, .int w13, .int w14, .ref g15, .int w16, .ref g17, .int w18, .int w19, .ref g20, .int w21, .ref g22, .ref g23, .ref g24, .int w25, .int w26, .int w27, .ref g28, .ref g29, .int w30, .ref g31, .ref g32, .ref g33])), (g1, .inl (T 0, 282, .inl fa))] ∧ z = unbF n fa n)
set_option maxHeartbeats 4000000 in
set_option maxRecDepth 100000 in
theorem m_unblown_f (l : Launch) (D : va_G) (T : Nat → ClassId) (n : Nat) (o : Nat) (w0 : Int32) (g1 : Nat) (g2 : Nat) (g3 : Nat) (g4 : Nat) (tp : Nat) (w6 : Int32) (w7 : Int32) (w8 : Int32) (w9 : Int32) (w10 : Int32) (w11 : Int32) (w12 : Int32) (w13 : Int32) (w14 : Int32) (g15 : Nat) (w16 : Int32) (g17 : Nat) (w18 : Int32) (w19 : Int32) (g20 : Nat) (w21 : Int32) (g22 : Nat) (g23 : Nat) (g24 : Nat) (w25 : Int32) (w26 : Int32) (w27 : Int32) (g28 : Nat) (g29 : Nat) (w30 : Int32) (g31 : Nat) (g32 : Nat) (g33 : Nat) (fa : Nat → Int32) (h_a : MI n fa) : Ct l yX8_unblown cX8_unblown 3 (some .int) 1 0 0 D T [.ref o] [(o, .inr (8, [.int w0, .ref g1, .ref g2, .ref g3, .ref g4, .int (nI tp), .int w6, .int w7, .int w8, .int w9, .int w10, .int w11, .int w12, .int w13, .int w14, .ref g15, .int w16, .ref g17, .int w18, .int w19, .ref g20, .int w21, .ref g22, .ref g23, .ref g24, .int w25, .int w26, .int w27, .ref g28, .ref g29, .int w30, .ref g31, .ref g32, .ref g33])), (g1, .inl (T 0, 282, .inl fa))] (q_m_unblown_f T n o w0 g1 g2 g3 g4 tp w6 w7 w8 w9 w10 w11 w12 w13 w14 g15 w16 g17 w18 w19 g20 w21 g22 g23 g24 w25 w26 w27 g28 g29 w30 g31 g32 g33 fa) := by
  refine Ct.of (cc := cX8_unblown) (maxL := 3) (ret := (some .int)) (by decide) (Nat.le_of_ble_eq_true rfl) ?_
  intro p e s m args below meth c A ls hC hnm V hl
  obtain ⟨hx, hb, hr, hml, hown, hts, hlocks⟩ := id hC
  generalize hH : s.heap = H at V ⊢
  clear hH
  have hl : lv_has ls 3 [(0, .ref o)] := hl
  generalize hlo : ([] : List Loc) = locs at V ⊢
  clear hlo
  have ms0 := ms_rf h_a
  have hn10 := h_a.1
  refine lv_aload_n hx hb dX8_unblown_0 rfl (lv_at hl 0 rfl) ?_
  refine lv_iconst (v := (nI 0)) hx hb dX8_unblown_1 (by decide +kernel) ?_
  refine g_put hC V (ci := 8) uwX8 tyX8 tyX8_ok nmX8 0 rfl rfl 0 (by decide) w_912 rfl rfl rfl rfl (Nat.le_of_ble_eq_true rfl) (ws' := [(o, .inr (8, [.int (nI 0), .ref g1, .ref g2, .ref g3, .ref g4, .int (nI tp), .int w6, .int w7, .int w8, .int w9, .int w10, .int w11, .int w12, .int w13, .int w14, .ref g15, .int w16, .ref g17, .int w18, .int w19, .ref g20, .int w21, .ref g22, .ref g23, .ref g24, .int w25, .int w26, .int w27, .ref g28, .ref g29, .int w30, .ref g31, .ref g32, .ref g33])), (g1, .inl (T 0, 282, .inl fa))]) rfl dX8_unblown_2 (fun H locs V => ?_)
  refine lv_iconst (v := (nI 0)) hx hb dX8_unblown_5 (by decide +kernel) ?_
  refine lv_istore_n (lv' := [(1, .int (nI 0)), (0, .ref o)]) hx hb dX8_unblown_6 rfl hl (by decide) rfl (fun ls hl => ?_)
  refine lv_iconst (v := (nI 0)) hx hb dX8_unblown_7 (by decide +kernel) ?_
  refine lv_istore_n (lv' := [(2, .int (nI 0)), (1, .int (nI 0)), (0, .ref o)]) hx hb dX8_unblown_8 rfl hl (by decide) rfl (fun ls hl => ?_)
  have L_1 : ∀ (fu : Nat) (k9 : Nat) (x1 : Int32), k9 ≤ n → x1 = unbF n fa k9 → n - k9 < fu → ∀ (H : Heap) (locs : List Loc) (ls : Array Slot), gW D T A s [(o, .inr (8, [.int (nI 0), .ref g1, .ref g2, .ref g3, .ref g4, .int (nI tp), .int w6, .int w7, .int w8, .int w9, .int w10, .int w11, .int w12, .int w13, .int w14, .ref g15, .int w16, .ref g17, .int w18, .int w19, .ref g20, .int w21, .ref g22, .ref g23, .ref g24, .int w25, .int w26, .int w27, .ref g28, .ref g29, .int w30, .ref g31, .ref g32, .ref g33])), (g1, .inl (T 0, 282, .inl fa))] H locs → lv_has ls 3 [(2, .int (nI k9)), (1, .int x1), (0, .ref o)] → W p l e (rmD 1 0 0) s m args below meth c H locs 0 0 (MQ below (gQ D A (q_m_unblown_f T n o w0 g1 g2 g3 g4 tp w6 w7 w8 w9 w10 w11 w12 w13 w14 g15 w16 g17 w18 w19 g20 w21 g22 g23 g24 w25 w26 w27 g28 g29 w30 g31 g32 g33 fa)) args s 0 0 A) (F0 m 9 ls []) := by
    intro fu_9
    induction fu_9 with
    | zero => intro k9 x1 hk9 hx1 hmu; exact absurd hmu (Nat.not_lt_zero _)
    | succ fu_9 ih_9 =>
      intro k9 x1 hk9 hx1 hmu_9 H locs ls V hl
      refine lv_iload_n hx hb dX8_unblown_9 rfl (lv_at hl 0 rfl) ?_
      refine lv_aload_n hx hb dX8_unblown_10 rfl (lv_at hl 2 rfl) ?_
      refine g_get hC V (ci := 8) uwX8 0 rfl rfl 1 (by decide) w_913 rfl rfl dX8_unblown_11 ?_
      refine lv_iconst (v := (nI 0)) hx hb dX8_unblown_14 (by decide +kernel) ?_
      refine g_iald hC V 1 rfl (vp_in_nI (by decide) (by decide)) (v := (nI n)) (by rw [nI_clamp (by decide)]; first | rfl | exact h_a.2.1) dX8_unblown_15 ?_
      refine lv_icmp_ge (tgt := 43) hx hb dX8_unblown_16 (by decide) (fun c_2 => ?_) (fun c_2 => ?_)
      · skip
        have c_2 := b_le (by omega) (by omega) c_2
        refine lv_iload_n hx hb dX8_unblown_43 rfl (lv_at hl 1 rfl) ?_
        exact g_iret (Qr := (q_m_unblown_f T n o w0 g1 g2 g3 g4 tp w6 w7 w8 w9 w10 w11 w12 w13 w14 g15 w16 g17 w18 w19 g20 w21 g22 g23 g24 w25 w26 w27 g28 g29 w30 g31 g32 g33 fa)) hC V ⟨(Nat.le_of_ble_eq_true rfl), (Nat.le_of_ble_eq_true rfl)⟩ ⟨x1, rfl, rfl, (by rw [hx1]; congr 1; omega)⟩ dX8_unblown_44
      · skip
        have c_2 := b_nle (by omega) (by omega) c_2
        refine lv_iload_n hx hb dX8_unblown_19 rfl (lv_at hl 1 rfl) ?_
        refine lv_aload_n hx hb dX8_unblown_20 rfl (lv_at hl 2 rfl) ?_
        refine lv_iload_n hx hb dX8_unblown_21 rfl (lv_at hl 0 rfl) ?_
        refine g_callV (wr := []) (nA := 1) hC V hl.1 (m_blowersOf_f l D T n o k9 (nI 0) g1 g2 g3 g4 tp w6 w7 w8 w9 w10 w11 w12 w13 w14 g15 w16 g17 w18 w19 g20 w21 g22 g23 g24 w25 w26 w27 g28 g29 w30 g31 g32 g33 fa h_a) w_1096 w_1098 w_s48 w_9 w_1099 (by decide +kernel) rfl ⟨(Nat.le_of_ble_eq_true rfl), (Nat.le_of_ble_eq_true rfl)⟩ 0 (ci := 8) rfl rfl [0, 1] [] rfl rfl rfl rfl (by decide) (Nat.le_of_ble_eq_true rfl) dX8_unblown_22 ⟨(Nat.le_of_ble_eq_true rfl), (Nat.le_of_ble_eq_true rfl)⟩ rfl (fun r w1 H locs hQ V => ?_)
        obtain ⟨z_3, rfl, rfl, f_4⟩ := hQ
        have V : gW D T A s [(o, .inr (8, [.int (nI 0), .ref g1, .ref g2, .ref g3, .ref g4, .int (nI tp), .int w6, .int w7, .int w8, .int w9, .int w10, .int w11, .int w12, .int w13, .int w14, .ref g15, .int w16, .ref g17, .int w18, .int w19, .ref g20, .int w21, .ref g22, .ref g23, .ref g24, .int w25, .int w26, .int w27, .ref g28, .ref g29, .int w30, .ref g31, .ref g32, .ref g33])), (g1, .inl (T 0, 282, .inl fa))] H locs := V
        show W p l e _ s m args below meth c H locs _ _ _ (F0 m 25 ls [.int z_3, .int x1])
        refine lv_if_ne (tgt := 34) hx hb dX8_unblown_25 (by decide) (fun c_5 => ?_) (fun c_5 => ?_)
        · skip
          refine lv_iconst (v := (nI 0)) hx hb dX8_unblown_34 (by decide +kernel) ?_
          refine lv_ior hx hb dX8_unblown_35 ?_
          refine lv_istore_n (lv' := [(1, .int (x1 ||| (nI 0))), (2, .int (nI k9)), (0, .ref o)]) hx hb dX8_unblown_36 rfl hl (by decide) rfl (fun ls hl => ?_)
          refine lv_iinc (v := (nI (k9 + 1))) (lv' := [(2, .int (nI (k9 + 1))), (1, .int (x1 ||| (nI 0))), (0, .ref o)]) hx hb dX8_unblown_37 hl (k := 1) rfl (nI_1 _) (by decide) rfl (fun ls hl => ?_)
          refine lv_goto (tgt := 9) hx hb dX8_unblown_40 (by decide) ?_
          exact ih_9 (k9 + 1) (x1 ||| (nI 0)) (by omega) (by rw [hx1]; exact ub_n f_4 c_5) (by omega) _ _ _ V (lv_sub hl [0, 1, 2] rfl)
        · skip
          refine lv_iconst (v := (nI 1)) hx hb dX8_unblown_28 (by decide +kernel) ?_
          refine lv_iload_n hx hb dX8_unblown_29 rfl (lv_at hl 0 rfl) ?_
          refine lv_ishl hx hb dX8_unblown_30 ?_
          refine lv_goto (tgt := 35) hx hb dX8_unblown_31 (by decide) ?_
          refine lv_ior hx hb dX8_unblown_35 ?_
          refine lv_istore_n (lv' := [(1, .int (x1 ||| ((nI 1) <<< ((nI k9) &&& 31)))), (2, .int (nI k9)), (0, .ref o)]) hx hb dX8_unblown_36 rfl hl (by decide) rfl (fun ls hl => ?_)
          refine lv_iinc (v := (nI (k9 + 1))) (lv' := [(2, .int (nI (k9 + 1))), (1, .int (x1 ||| ((nI 1) <<< ((nI k9) &&& 31)))), (0, .ref o)]) hx hb dX8_unblown_37 hl (k := 1) rfl (nI_1 _) (by decide) rfl (fun ls hl => ?_)
          refine lv_goto (tgt := 9) hx hb dX8_unblown_40 (by decide) ?_
          exact ih_9 (k9 + 1) (x1 ||| ((nI 1) <<< ((nI k9) &&& 31))) (by omega) (by rw [hx1]; exact ub_y f_4 c_5) (by omega) _ _ _ V (lv_sub hl [0, 1, 2] rfl)
  exact L_1 _ 0 (nI 0) (by omega) rfl (Nat.lt_succ_self _) _ _ _ V (lv_sub hl [0, 1, 2] rfl)
