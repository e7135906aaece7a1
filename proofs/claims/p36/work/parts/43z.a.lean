/-! how soon a fire is warm -/
theorem bF_y {f : Nat → Int32} {pl : Int32} {i k : Nat} (h1 : bitP pl k) (h2 : f (84 + k) = nI i) : bsF f pl i k + f (4 + k) = bsF f pl i (k + 1) := by
  show _ = bsF f pl i k + (if bitP pl k ∧ f (84 + k) = nI i then f (4 + k) else nI 0)
  rw [if_pos ⟨h1, h2⟩]
theorem bF_n {f : Nat → Int32} {pl : Int32} {i k : Nat} (h : ¬ (bitP pl k ∧ f (84 + k) = nI i)) : bsF f pl i k = bsF f pl i (k + 1) := by
  show _ = bsF f pl i k + (if bitP pl k ∧ f (84 + k) = nI i then f (4 + k) else nI 0)
  rw [if_neg h]; exact add_n0 _
def bsA (f : Nat → Int32) (i : Nat) : Nat → Int32
  | 0 => nI 0
  | k + 1 => bsA f i k + (if f (84 + k) = nI i then f (4 + k) else nI 0)
theorem ba_y {f : Nat → Int32} {c : Int32} {i k : Nat} (h : f (84 + k) = nI i) : c + bsA f i k + f (4 + k) = c + bsA f i (k + 1) := by
  show _ = c + (bsA f i k + (if f (84 + k) = nI i then f (4 + k) else nI 0))
  rw [if_pos h, Int32.add_assoc]
theorem ba_n {f : Nat → Int32} {c : Int32} {i k : Nat} (h : ¬ f (84 + k) = nI i) : c + bsA f i k + nI 0 = c + bsA f i (k + 1) := by
  show _ = c + (bsA f i k + (if f (84 + k) = nI i then f (4 + k) else nI 0))
  rw [if_neg h, Int32.add_assoc]
theorem evb {n k : Nat} (hn : n ≤ 10) (hk : k < n) : bitP (nI (2 ^ n - 1)) k := by
  have H : ∀ n : Fin 11, ∀ k : Fin 10, k.1 < n.1 → bitP (nI (2 ^ n.1 - 1)) k.1 := by decide +kernel
  exact H ⟨n, by omega⟩ ⟨k, by omega⟩ hk
theorem bF_all {n i : Nat} {f : Nat → Int32} (hn : n ≤ 10) : ∀ k, k ≤ n → bsF f (nI (2 ^ n - 1)) i k = bsA f i k
  | 0, _ => rfl
  | k + 1, hk => by
    show bsF f (nI (2 ^ n - 1)) i k + (if bitP (nI (2 ^ n - 1)) k ∧ f (84 + k) = nI i then f (4 + k) else nI 0) = bsA f i k + (if f (84 + k) = nI i then f (4 + k) else nI 0)
    rw [bF_all hn k (by omega)]
    by_cases c : f (84 + k) = nI i
    · rw [if_pos ⟨evb hn (by omega), c⟩, if_pos c]
    · rw [if_neg (fun q => c q.2), if_neg c]
theorem bA_bd {n i : Nat} {f : Nat → Int32} (h : MI n f) : ∀ k, k ≤ n → ∃ p, p ≤ 60 * k ∧ bsA f i k = nI p
  | 0, _ => ⟨0, Nat.le_refl _, rfl⟩
  | k + 1, hk => by
    obtain ⟨p, hp, e⟩ := bA_bd (i := i) h k (by omega)
    obtain ⟨b, hb, eb⟩ := mi_blast h (show k < n by omega)
    show ∃ p, p ≤ 60 * (k + 1) ∧ bsA f i k + (if f (84 + k) = nI i then f (4 + k) else nI 0) = nI p
    by_cases c : f (84 + k) = nI i
    · rw [if_pos c, e, eb, nI_add]; exact ⟨p + b, by omega, rfl⟩
    · rw [if_neg c, e, nI_add]; exact ⟨p + 0, by omega, rfl⟩
/-- by how much a fire gains, if all pull -/
def gnW (n : Nat) (f : Nat → Int32) (i : Nat) : Int32 := bsA f i n - f (14 + i)
theorem gn_1 {n j : Nat} {f : Nat → Int32} (h : MI n f) (hj : j < n) (hc : 0 < gnW n f j) : ∃ q, 1 ≤ q ∧ q ≤ 700 ∧ gnW n f j = nI q := by
  have hn := h.1
  obtain ⟨p, hp, e⟩ := bA_bd (i := j) h n (Nat.le_refl _)
  obtain ⟨c, hc1, ec⟩ := mi_cool h hj
  exact wm_1 ⟨p, by omega, by unfold gnW; rw [e, ec]⟩ hc1 hc
theorem gn_0 {x : Int32} (h : ¬ 0 < x) : x.toNatClampNeg = 0 := by
  have z : (0 : Int32).toInt = 0 := by decide +kernel
  rw [Int32.lt_iff_toInt_lt] at h
  show x.toInt.toNat = 0
  omega
theorem gn_eq {n i jc : Nat} {f : Nat → Int32} {cm : Int32} (e : cm = -(nI jc) + bsA f i n) (ec : f (14 + i) = nI jc) : cm = gnW n f i := by
  unfold gnW; rw [e, ec, Int32.sub_eq_add_neg, Int32.add_comm]
def wmG (a h q : Nat) : Int32 := if h ≤ a then nI 0 else if q = 0 then -1 else nI ((h - a + q - 1) / q)
theorem wg_0 {a h q : Nat} (c : h ≤ a) : wmG a h q = nI 0 := if_pos c
theorem wg_1 {a h q : Nat} (c : a < h) (hq : q = 0) : wmG a h q = -1 := by unfold wmG; rw [if_neg (by omega), if_pos hq]
theorem wg_d {a h q : Nat} {x g : Int32} (ex : x = nI h - nI a) (c : a < h) (hh : h ≤ 200) (eg : g = nI q) (h1 : 1 ≤ q) (h2 : q ≤ 700) : wmG a h q = (x + g - nI 1) / g := by
  unfold wmG; rw [if_neg (by omega), if_neg (by omega), ex, eg, nI_sub (by omega), nI_add, nI_sub (by omega), nI_div (by omega) (by omega)]
/-- the reference's way -/
def WMI (a h q k w : Nat) : Prop := (w < h → w = a + k * q) ∧ (h ≤ w → (k = 0 ∧ w = a) ∨ (1 ≤ k ∧ a + (k - 1) * q < h ∧ h ≤ a + k * q))
theorem wi_0 {a h q : Nat} : WMI a h q 0 a := ⟨fun _ => by omega, fun _ => Or.inl ⟨rfl, rfl⟩⟩
theorem wi_s {a h q k w r : Nat} (H : WMI a h q k w) (hw : w < h) (hh : h ≤ 200) (h1 : 1 ≤ q) (h2 : q ≤ 700) (e : nI r = ibf (nI w + nI q)) (hr : r < 201) : WMI a h q (k + 1) r := by
  have ew := H.1 hw
  rw [nI_add] at e
  unfold ibf at e
  rw [if_neg (nI_pos (by omega))] at e
  have er : (r = 200 ∧ 200 < w + q) ∨ r = w + q := by
    split at e
    · rename_i c
      exact Or.inl ⟨b_eq (by omega) (by omega) e, b_lt (by omega) (by omega) c⟩
    · exact Or.inr (b_eq (by omega) (by omega) e)
  have ek : (k + 1) * q = k * q + q := Nat.succ_mul k q
  refine ⟨fun c => ?_, fun c => Or.inr ⟨by omega, ?_, ?_⟩⟩
  · rw [ek]; omega
  · rw [show k + 1 - 1 = k by omega]; omega
  · rw [ek]; omega
theorem wi_n {a h q k w : Nat} (H : WMI a h q k w) (hw : w < h) (hq : q = 0) : wmG a h q = -1 := by
  have ew := H.1 hw
  rw [hq, Nat.mul_zero] at ew
  exact wg_1 (by omega) hq
theorem wi_e {a h q k w : Nat} (H : WMI a h q k w) (hw : h ≤ w) : wmG a h q = nI k := by
  rcases H.2 hw with ⟨c, e⟩ | ⟨h1, h2, h3⟩
  · rw [c]; exact wg_0 (by omega)
  · by_cases hq : q = 0
    · exfalso; rw [hq, Nat.mul_zero] at h3; rw [hq, Nat.mul_zero] at h2; omega
    · have e1 : k * q = (k - 1) * q + q := by
        have := Nat.succ_mul (k - 1) q
        rw [show (k - 1).succ = k by omega] at this
        exact this
      have hd : (h - a + q - 1) / q = k := by
        refine Nat.div_eq_of_lt_le ?_ ?_
        · rw [e1]; omega
        · rw [Nat.succ_mul]; omega
      unfold wmG; rw [if_neg (by omega), if_neg hq, hd]
def wmA (n : Nat) (f : Nat → Int32) (i h : Int32) : Int32 := if smP n i then (if h < nI 0 ∨ nI 200 < h then -3 else wmG (f (24 + i.toNatClampNeg)).toNatClampNeg h.toNatClampNeg (gnW n f i.toNatClampNeg).toNatClampNeg) else -2
theorem wm_o {n : Nat} {f : Nat → Int32} {i h : Int32} (c : i < 0 ∨ nI n ≤ i) : -2 = wmA n f i h := by unfold wmA; rw [if_neg (fun q => q c)]
theorem wm_3 {n j : Nat} {f : Nat → Int32} {i h : Int32} (hn : n ≤ 10) (ei : i = nI j) (hj : j < n) (c : h < nI 0 ∨ nI 200 < h) : -3 = wmA n f i h := by unfold wmA; rw [if_pos (smP_of ei hj hn), if_pos c]
theorem wm_y {n j ja jh : Nat} {f : Nat → Int32} {i h z : Int32} (hn : n ≤ 10) (ei : i = nI j) (hj : j < n) (h1 : ¬ h < nI 0) (h2 : ¬ nI 200 < h) (eh : h = nI jh) (hh : jh ≤ 200) (ea : f (24 + j) = nI ja) (ha : ja < 256) (hz : wmG ja jh (gnW n f j).toNatClampNeg = z) : z = wmA n f i h := by
  unfold wmA; rw [if_pos (smP_of ei hj hn), if_neg (fun q => q.elim h1 h2), ei, nI_clamp (by omega), ea, nI_clamp (by omega), eh, nI_clamp (by omega), hz]
theorem lk_0 {a h : Nat} {x : Int32} (ex : x = nI a) (ha : a < 256) (hh : h ≤ 200) (c : ¬ 0 < nI h - x) : h ≤ a := by
  by_cases q : h ≤ a
  · exact q
  · exfalso
    apply c
    rw [ex, nI_sub (by omega), Int32.lt_iff_toInt_lt, nI_toInt (by omega), show (0 : Int32).toInt = 0 by decide +kernel]
    omega
theorem lk_1 {a h : Nat} {x : Int32} (ex : x = nI a) (ha : a < 256) (hh : h ≤ 200) (c : 0 < nI h - x) : a < h := by
  rw [ex] at c
  obtain ⟨m, hm, em⟩ := nI_of (x := nI h - nI a) (fun q => by rw [Int32.lt_iff_toInt_lt] at c q; omega)
  have e : nI (m + a) = nI h := by rw [← nI_add, ← em]; exact Int32.sub_add_cancel _ _
  have e2 : (BitVec.ofNat 32 (m + a)).toNat = (BitVec.ofNat 32 h).toNat := congrArg (fun q : Int32 => q.toBitVec.toNat) e
  rw [BitVec.toNat_ofNat, BitVec.toNat_ofNat] at e2
  have hm0 : m ≠ 0 := fun q => by
    rw [em, q] at c
    exact absurd c (by decide +kernel)
  omega

def q_s_blastOn_f (T : Nat → ClassId) (fa : Nat → Int32) (a0 : Nat) (j : Nat) (pl : Int32) (an : Nat) (am : Int32) (al : Int32) (ao : Int32) (au : Int32) (a1 : Nat) (a2 : Nat) (a3 : Nat) (a4 : Nat) (a5 : Nat) (a6 : Nat) (a7 : Nat) (a8 : Nat) (a9 : Nat) (a10 : Nat) (af1 : Nat → Int32) (af9 : Nat → Int32) : Option Value → va_W → Prop := fun rr ww => (∃ (z : Int32), rr = some (.int z) ∧ ww = [(a0, .inr (5, [.int (nI an), .int am, .int al, .int ao, .int au, .ref a1, .ref a2, .ref a3, .ref a4, .ref a5, .ref a6, .ref a7, .ref a8, .ref a9, .ref a10])), (a1, .inl (T 0, 10, .inl af1)), (a9, .inl (T 0, 10, .inl af9))] ∧ z = bsF fa pl j an)
set_option maxHeartbeats 4000000 in
set_option maxRecDepth 100000 in
theorem s_blastOn_f (l : Launch) (D : va_G) (T : Nat → ClassId) (fa : Nat → Int32) (a0 : Nat) (j : Nat) (pl : Int32) (an : Nat) (am : Int32) (al : Int32) (ao : Int32) (au : Int32) (a1 : Nat) (a2 : Nat) (a3 : Nat) (a4 : Nat) (a5 : Nat) (a6 : Nat) (a7 : Nat) (a8 : Nat) (a9 : Nat) (a10 : Nat) (af1 : Nat → Int32) (af9 : Nat → Int32) (h_n : an ≤ 10) (h_s1 : ∀ i, i < an → af1 i = fa (4 + i)) (h_s9 : ∀ i, i < an → af9 i = fa (84 + i)) : Ct l yX5_blastOn cX5_blastOn 5 (some .int) 1 0 0 D T [.ref a0, .int (nI j), .int pl] [(a0, .inr (5, [.int (nI an), .int am, .int al, .int ao, .int au, .ref a1, .ref a2, .ref a3, .ref a4, .ref a5, .ref a6, .ref a7, .ref a8, .ref a9, .ref a10])), (a1, .inl (T 0, 10, .inl af1)), (a9, .inl (T 0, 10, .inl af9))] (q_s_blastOn_f T fa a0 j pl an am al ao au a1 a2 a3 a4 a5 a6 a7 a8 a9 a10 af1 af9) := by
  refine Ct.of (cc := cX5_blastOn) (maxL := 5) (ret := (some .int)) (by decide) (Nat.le_of_ble_eq_true rfl) ?_
  intro p e s m args below meth c A ls hC hnm V hl
  obtain ⟨hx, hb, hr, hml, hown, hts, hlocks⟩ := id hC
  generalize hH : s.heap = H at V ⊢
  clear hH
  have hl : lv_has ls 5 [(0, .ref a0), (1, .int (nI j)), (2, .int pl)] := hl
  generalize hlo : ([] : List Loc) = locs at V ⊢
  clear hlo
  refine lv_iconst (v := (nI 0)) hx hb dX5_blastOn_0 (by decide +kernel) ?_
  refine lv_istore_n (lv' := [(3, .int (nI 0)), (0, .ref a0), (1, .int (nI j)), (2, .int pl)]) hx hb dX5_blastOn_1 rfl hl (by decide) rfl (fun ls hl => ?_)
  refine lv_iconst (v := (nI 0)) hx hb dX5_blastOn_2 (by decide +kernel) ?_
  refine lv_istore (lv' := [(4, .int (nI 0)), (3, .int (nI 0)), (0, .ref a0), (1, .int (nI j)), (2, .int pl)]) hx hb dX5_blastOn_3 hl (by decide) rfl (fun ls hl => ?_)
  have L_1 : ∀ (fu : Nat) (k5 : Nat) (x3 : Int32), k5 ≤ an → x3 = bsF fa pl j k5 → an - k5 < fu → ∀ (H : Heap) (locs : List Loc) (ls : Array Slot), gW D T A s [(a0, .inr (5, [.int (nI an), .int am, .int al, .int ao, .int au, .ref a1, .ref a2, .ref a3, .ref a4, .ref a5, .ref a6, .ref a7, .ref a8, .ref a9, .ref a10])), (a1, .inl (T 0, 10, .inl af1)), (a9, .inl (T 0, 10, .inl af9))] H locs → lv_has ls 5 [(4, .int (nI k5)), (3, .int x3), (0, .ref a0), (1, .int (nI j)), (2, .int pl)] → W p l e (rmD 1 0 0) s m args below meth c H locs 0 0 (MQ below (gQ D A (q_s_blastOn_f T fa a0 j pl an am al ao au a1 a2 a3 a4 a5 a6 a7 a8 a9 a10 af1 af9)) args s 0 0 A) (F0 m 5 ls []) := by
    intro fu_5
    induction fu_5 with
    | zero => intro k5 x3 hk5 hx3 hmu; exact absurd hmu (Nat.not_lt_zero _)
    | succ fu_5 ih_5 =>
      intro k5 x3 hk5 hx3 hmu_5 H locs ls V hl
      refine lv_iload hx hb dX5_blastOn_5 (lv_at hl 0 rfl) ?_
      refine lv_aload_n hx hb dX5_blastOn_7 rfl (lv_at hl 2 rfl) ?_
      refine g_get hC V (ci := 5) uwX5 0 rfl rfl 0 (by decide) w_33 rfl rfl dX5_blastOn_8 ?_
      refine lv_icmp_ge (tgt := 50) hx hb dX5_blastOn_11 (by decide) (fun c_2 => ?_) (fun c_2 => ?_)
      · skip
        have c_2 := b_le (by omega) (by omega) c_2
        refine lv_iload_n hx hb dX5_blastOn_50 rfl (lv_at hl 1 rfl) ?_
        exact g_iret (Qr := (q_s_blastOn_f T fa a0 j pl an am al ao au a1 a2 a3 a4 a5 a6 a7 a8 a9 a10 af1 af9)) hC V ⟨(Nat.le_of_ble_eq_true rfl), (Nat.le_of_ble_eq_true rfl)⟩ ⟨x3, rfl, rfl, (by rw [hx3]; congr 1; omega)⟩ dX5_blastOn_51
      · skip
        have c_2 := b_nle (by omega) (by omega) c_2
        refine lv_aload_n hx hb dX5_blastOn_14 rfl (lv_at hl 2 rfl) ?_
        refine g_get hC V (ci := 5) uwX5 0 rfl rfl 13 (by decide) w_82 rfl rfl dX5_blastOn_15 ?_
        refine lv_iload hx hb dX5_blastOn_18 (lv_at hl 0 rfl) ?_
        refine g_iald hC V 2 rfl (vp_in_nI (by omega) (by omega)) (v := (af9 k5)) (congrArg _ (nI_clamp (by omega))) dX5_blastOn_20 ?_
        refine lv_iload_n hx hb dX5_blastOn_21 rfl (lv_at hl 3 rfl) ?_
        refine lv_icmp_ne (tgt := 44) hx hb dX5_blastOn_22 (by decide) (fun c_3 => ?_) (fun c_3 => ?_)
        · skip
          refine lv_iinc (v := (nI (k5 + 1))) (lv' := [(4, .int (nI (k5 + 1))), (3, .int x3), (0, .ref a0), (1, .int (nI j)), (2, .int pl)]) hx hb dX5_blastOn_44 hl (k := 0) rfl (nI_1 _) (by decide) rfl (fun ls hl => ?_)
          refine lv_goto (tgt := 5) hx hb dX5_blastOn_47 (by decide) ?_
          exact ih_5 (k5 + 1) x3 (by omega) (by rw [hx3]; exact bF_n (fun q => c_3 ((h_s9 _ (by omega)).trans q.2))) (by omega) _ _ _ V (lv_sub hl [0, 1, 2, 3, 4] rfl)
        · skip
          refine lv_iload_n hx hb dX5_blastOn_25 rfl (lv_at hl 4 rfl) ?_
          refine lv_iload hx hb dX5_blastOn_26 (lv_at hl 0 rfl) ?_
          refine g_callSNU (nA := 2) (host := RX7) hC V hl.1 (c_isIn_f l D T pl k5) w_472 (List.mem_of_getElem? (i := 13) rfl) w_2 w_471 (by decide +kernel) rfl ⟨(Nat.le_of_ble_eq_true rfl), (Nat.le_of_ble_eq_true rfl)⟩ [] rfl rfl (Nat.le_of_ble_eq_true rfl) dX5_blastOn_28 ⟨(Nat.le_of_ble_eq_true rfl), (Nat.le_of_ble_eq_true rfl)⟩ rfl (fun r w1 H locs hQ V => ?_)
          rcases hQ with ⟨rfl, rfl, f_4⟩ | ⟨rfl, rfl, f_5⟩
          · have V : gW D T A s [(a0, .inr (5, [.int (nI an), .int am, .int al, .int ao, .int au, .ref a1, .ref a2, .ref a3, .ref a4, .ref a5, .ref a6, .ref a7, .ref a8, .ref a9, .ref a10])), (a1, .inl (T 0, 10, .inl af1)), (a9, .inl (T 0, 10, .inl af9))] H locs := V _ [] rfl rfl rfl (by decide +kernel) rfl
            show W p l e _ s m args below meth c H locs _ _ _ (F0 m 31 ls [.int (nI 1)])
            refine lv_if_eq (tgt := 44) hx hb dX5_blastOn_31 (by decide) (fun c => absurd (show (nI 1) = 0 from c) (by decide +kernel)) (fun _ => ?_)
            refine lv_iload_n hx hb dX5_blastOn_34 rfl (lv_at hl 1 rfl) ?_
            refine lv_aload_n hx hb dX5_blastOn_35 rfl (lv_at hl 2 rfl) ?_
            refine g_get hC V (ci := 5) uwX5 0 rfl rfl 5 (by decide) w_51 rfl rfl dX5_blastOn_36 ?_
            refine lv_iload hx hb dX5_blastOn_39 (lv_at hl 0 rfl) ?_
            refine g_iald hC V 1 rfl (vp_in_nI (by omega) (by omega)) (v := (af1 k5)) (congrArg _ (nI_clamp (by omega))) dX5_blastOn_41 ?_
            refine lv_iadd hx hb dX5_blastOn_42 ?_
            refine lv_istore_n (lv' := [(3, .int (x3 + (af1 k5))), (4, .int (nI k5)), (0, .ref a0), (1, .int (nI j)), (2, .int pl)]) hx hb dX5_blastOn_43 rfl hl (by decide) rfl (fun ls hl => ?_)
            refine lv_iinc (v := (nI (k5 + 1))) (lv' := [(4, .int (nI (k5 + 1))), (3, .int (x3 + (af1 k5))), (0, .ref a0), (1, .int (nI j)), (2, .int pl)]) hx hb dX5_blastOn_44 hl (k := 1) rfl (nI_1 _) (by decide) rfl (fun ls hl => ?_)
            refine lv_goto (tgt := 5) hx hb dX5_blastOn_47 (by decide) ?_
            exact ih_5 (k5 + 1) (x3 + (af1 k5)) (by omega) (by rw [hx3]; exact (by rw [h_s1 _ (by omega)]; exact bF_y f_4 ((h_s9 _ (by omega)).symm.trans c_3))) (by omega) _ _ _ V (lv_sub hl [0, 1, 2, 3, 4] rfl)
          · have V : gW D T A s [(a0, .inr (5, [.int (nI an), .int am, .int al, .int ao, .int au, .ref a1, .ref a2, .ref a3, .ref a4, .ref a5, .ref a6, .ref a7, .ref a8, .ref a9, .ref a10])), (a1, .inl (T 0, 10, .inl af1)), (a9, .inl (T 0, 10, .inl af9))] H locs := V _ [] rfl rfl rfl (by decide +kernel) rfl
            show W p l e _ s m args below meth c H locs _ _ _ (F0 m 31 ls [.int (nI 0)])
            refine lv_if_eq (tgt := 44) hx hb dX5_blastOn_31 (by decide) (fun _ => ?_) (fun c => absurd (show (nI 0) = 0 by decide +kernel) c)
            refine lv_iinc (v := (nI (k5 + 1))) (lv' := [(4, .int (nI (k5 + 1))), (3, .int x3), (0, .ref a0), (1, .int (nI j)), (2, .int pl)]) hx hb dX5_blastOn_44 hl (k := 0) rfl (nI_1 _) (by decide) rfl (fun ls hl => ?_)
            refine lv_goto (tgt := 5) hx hb dX5_blastOn_47 (by decide) ?_
            exact ih_5 (k5 + 1) x3 (by omega) (by rw [hx3]; exact bF_n (fun q => f_5 q.1)) (by omega) _ _ _ V (lv_sub hl [0, 1, 2, 3, 4] rfl)
  exact L_1 _ 0 (nI 0) (by omega) rfl (Nat.lt_succ_self _) _ _ _ V (lv_sub hl [0, 1, 2, 3, 4] rfl)

def q_x_warm_f (T : Nat → ClassId) (nf4 : Nat → Int32) (nf5 : Nat → Int32) (nf6 : Nat → Int32) (nf7 : Nat → Int32) (fa : Nat → Int32) (o : Nat) (i : Int32) (ht : Int32) (n0 : Nat) (s0 : Nat) (im : Nat) (iz : Nat) (rw : Nat) (t0 : Nat) (u0 : Nat) (h0 : Nat) (y0 : Nat) (sv : Value) (nn : Nat) (nm : Int32) (nl : Int32) (no : Int32) (nu : Int32) (n1 : Nat) (n2 : Nat) (n3 : Nat) (n4 : Nat) (n5 : Nat) (n6 : Nat) (n7 : Nat) (n8 : Nat) (n9 : Nat) (n10 : Nat) (nf1 : Nat → Int32) (nf2 : Nat → Int32) (nf3 : Nat → Int32) (nf9 : Nat → Int32) : Option Value → va_W → Prop := fun rr ww => (∃ (z : Int32), rr = some (.int z) ∧ ww = [(o, .inr (7, [.ref n0, .ref s0, .ref im, .ref iz, .ref rw, .ref t0, .ref u0, .ref h0, .ref y0, sv])), (n0, .inr (5, [.int (nI nn), .int nm, .int nl, .int no, .int nu, .ref n1, .ref n2, .ref n3, .ref n4, .ref n5, .ref n6, .ref n7, .ref n8, .ref n9, .ref n10])), (n1, .inl (T 0, 10, .inl nf1)), (n2, .inl (T 0, 10, .inl nf2)), (n3, .inl (T 0, 10, .inl nf3)), (n9, .inl (T 0, 10, .inl nf9))] ∧ z = wmA nn fa i ht)
set_option maxHeartbeats 4000000 in
set_option maxRecDepth 100000 in
theorem x_warm_f (l : Launch) (D : va_G) (T : Nat → ClassId) (nf4 : Nat → Int32) (nf5 : Nat → Int32) (nf6 : Nat → Int32) (nf7 : Nat → Int32) (fa : Nat → Int32) (o : Nat) (i : Int32) (ht : Int32) (n0 : Nat) (s0 : Nat) (im : Nat) (iz : Nat) (rw : Nat) (t0 : Nat) (u0 : Nat) (h0 : Nat) (y0 : Nat) (sv : Value) (nn : Nat) (nm : Int32) (nl : Int32) (no : Int32) (nu : Int32) (n1 : Nat) (n2 : Nat) (n3 : Nat) (n4 : Nat) (n5 : Nat) (n6 : Nat) (n7 : Nat) (n8 : Nat) (n9 : Nat) (n10 : Nat) (nf1 : Nat → Int32) (nf2 : Nat → Int32) (nf3 : Nat → Int32) (nf9 : Nat → Int32) (h_n : nn ≤ 10) (h_sr : SR nn nm nl no nf1 nf2 nf3 nf4 nf5 nf6 nf7 nf9 fa) (h_a : MI nn fa) : Ct l yX7_warm cX7_warm 5 (some .int) 2 0 0 D T [.ref o, .int i, .int ht] [(o, .inr (7, [.ref n0, .ref s0, .ref im, .ref iz, .ref rw, .ref t0, .ref u0, .ref h0, .ref y0, sv])), (n0, .inr (5, [.int (nI nn), .int nm, .int nl, .int no, .int nu, .ref n1, .ref n2, .ref n3, .ref n4, .ref n5, .ref n6, .ref n7, .ref n8, .ref n9, .ref n10])), (n1, .inl (T 0, 10, .inl nf1)), (n2, .inl (T 0, 10, .inl nf2)), (n3, .inl (T 0, 10, .inl nf3)), (n9, .inl (T 0, 10, .inl nf9))] (q_x_warm_f T nf4 nf5 nf6 nf7 fa o i ht n0 s0 im iz rw t0 u0 h0 y0 sv nn nm nl no nu n1 n2 n3 n4 n5 n6 n7 n8 n9 n10 nf1 nf2 nf3 nf9) := by
  refine Ct.of (cc := cX7_warm) (maxL := 5) (ret := (some .int)) (by decide) (Nat.le_of_ble_eq_true rfl) ?_
  intro p e s m args below meth c A ls hC hnm V hl
  obtain ⟨hx, hb, hr, hml, hown, hts, hlocks⟩ := id hC
  generalize hH : s.heap = H at V ⊢
  clear hH
  have hl : lv_has ls 5 [(0, .ref o), (1, .int i), (2, .int ht)] := hl
  generalize hlo : ([] : List Loc) = locs at V ⊢
  clear hlo
  refine lv_aload_n hx hb dX7_warm_0 rfl (lv_at hl 0 rfl) ?_
  refine g_get hC V (ci := 7) uwX7 0 rfl rfl 0 (by decide) w_249 rfl rfl dX7_warm_1 ?_
  refine lv_iload_n hx hb dX7_warm_4 rfl (lv_at hl 1 rfl) ?_
  refine g_callVU (nA := 1) hC V hl.1 (s_isSmith l D T n0 i nn nm nl no nu n1 n2 n3 n4 n5 n6 n7 n8 n9 n10 (by first | assumption | omega)) w_425 w_426 w_427 w_3 w_428 (by decide +kernel) rfl ⟨(Nat.le_of_ble_eq_true rfl), (Nat.le_of_ble_eq_true rfl)⟩ 1 (ci := 5) rfl rfl [1] rfl rfl (Nat.le_of_ble_eq_true rfl) dX7_warm_5 ⟨(Nat.le_of_ble_eq_true rfl), (Nat.le_of_ble_eq_true rfl)⟩ rfl (fun r w1 H locs hQ V => ?_)
  rcases hQ with ⟨j_1, rfl, rfl, f_2, f_3⟩ | ⟨rfl, rfl, f_4⟩
  · have V : gW D T A s [(o, .inr (7, [.ref n0, .ref s0, .ref im, .ref iz, .ref rw, .ref t0, .ref u0, .ref h0, .ref y0, sv])), (n0, .inr (5, [.int (nI nn), .int nm, .int nl, .int no, .int nu, .ref n1, .ref n2, .ref n3, .ref n4, .ref n5, .ref n6, .ref n7, .ref n8, .ref n9, .ref n10])), (n1, .inl (T 0, 10, .inl nf1)), (n2, .inl (T 0, 10, .inl nf2)), (n3, .inl (T 0, 10, .inl nf3)), (n9, .inl (T 0, 10, .inl nf9))] H locs := V _ [1] rfl rfl rfl (by decide +kernel) rfl
    show W p l e _ s m args below meth c H locs _ _ _ (F0 m 8 ls [.int (nI 1)])
    rw [f_2] at hl
    refine lv_if_ne (tgt := 14) hx hb dX7_warm_8 (by decide) (fun _ => ?_) (fun c => absurd (show (nI 1) = 0 from c) (by decide +kernel))
    refine lv_iload_n hx hb dX7_warm_14 rfl (lv_at hl 2 rfl) ?_
    refine lv_iconst (v := (nI 0)) hx hb dX7_warm_15 (by decide +kernel) ?_
    refine lv_sipush (v := (nI 200)) hx hb dX7_warm_16 (by decide +kernel) ?_
    refine g_callSU (nA := 3) hC V hl.1 (c_isWithin l D T ht (nI 0) (nI 200)) w_292 w_293 w_2 w_294 (by decide +kernel) rfl ⟨(Nat.le_of_ble_eq_true rfl), (Nat.le_of_ble_eq_true rfl)⟩ [] rfl rfl (Nat.le_of_ble_eq_true rfl) dX7_warm_19 ⟨(Nat.le_of_ble_eq_true rfl), (Nat.le_of_ble_eq_true rfl)⟩ rfl (fun r w1 H locs hQ V => ?_)
    rcases hQ with ⟨rfl, rfl, f_5, f_6⟩ | ⟨rfl, rfl, f_7⟩
    · have V : gW D T A s [(o, .inr (7, [.ref n0, .ref s0, .ref im, .ref iz, .ref rw, .ref t0, .ref u0, .ref h0, .ref y0, sv])), (n0, .inr (5, [.int (nI nn), .int nm, .int nl, .int no, .int nu, .ref n1, .ref n2, .ref n3, .ref n4, .ref n5, .ref n6, .ref n7, .ref n8, .ref n9, .ref n10])), (n1, .inl (T 0, 10, .inl nf1)), (n2, .inl (T 0, 10, .inl nf2)), (n3, .inl (T 0, 10, .inl nf3)), (n9, .inl (T 0, 10, .inl nf9))] H locs := V _ [] rfl rfl rfl (by decide +kernel) rfl
      show W p l e _ s m args below meth c H locs _ _ _ (F0 m 22 ls [.int (nI 1)])
      obtain ⟨jh, hjh1, hjh2, ejh⟩ := g_rng (by first | decide | omega) (by first | decide | omega) f_5 f_6
      rw [ejh] at hl
      obtain ⟨ja, hja, eja⟩ := mi_heat h_a f_3
      have e3a : nf3 j_1 = nI ja := (h_sr.2.2.2.2 j_1 f_3).2.2.1.trans eja
      refine lv_if_ne (tgt := 28) hx hb dX7_warm_22 (by decide) (fun _ => ?_) (fun c => absurd (show (nI 1) = 0 from c) (by decide +kernel))
      refine lv_iload_n hx hb dX7_warm_28 rfl (lv_at hl 2 rfl) ?_
      refine lv_aload_n hx hb dX7_warm_29 rfl (lv_at hl 0 rfl) ?_
      refine g_get hC V (ci := 7) uwX7 0 rfl rfl 0 (by decide) w_249 rfl rfl dX7_warm_30 ?_
      refine g_get hC V (ci := 5) uwX5 1 rfl rfl 7 (by decide) w_65 rfl rfl dX7_warm_33 ?_
      refine lv_iload_n hx hb dX7_warm_36 rfl (lv_at hl 1 rfl) ?_
      refine g_iald hC V 4 rfl (vp_in_nI (by omega) (by omega)) (v := (nf3 j_1)) (congrArg _ (nI_clamp (by omega))) dX7_warm_37 ?_
      refine lv_isub hx hb dX7_warm_38 ?_
      refine lv_istore_n (lv' := [(3, .int ((nI jh) - (nf3 j_1))), (0, .ref o), (1, .int (nI j_1)), (2, .int (nI jh))]) hx hb dX7_warm_39 rfl hl (by decide) rfl (fun ls hl => ?_)
      refine lv_iload_n hx hb dX7_warm_40 rfl (lv_at hl 0 rfl) ?_
      refine lv_if_gt (tgt := 46) hx hb dX7_warm_41 (by decide) (fun c_8 => ?_) (fun c_8 => ?_)
      · skip
        have hlk := lk_1 e3a hja (by omega) c_8
        refine lv_aload_n hx hb dX7_warm_46 rfl (lv_at hl 1 rfl) ?_
        refine g_get hC V (ci := 7) uwX7 0 rfl rfl 0 (by decide) w_249 rfl rfl dX7_warm_47 ?_
        refine lv_iload_n hx hb dX7_warm_50 rfl (lv_at hl 2 rfl) ?_
        refine lv_aload_n hx hb dX7_warm_51 rfl (lv_at hl 1 rfl) ?_
        refine g_get hC V (ci := 7) uwX7 0 rfl rfl 0 (by decide) w_249 rfl rfl dX7_warm_52 ?_
        refine g_callVU (nA := 0) hC V hl.1 (s_everyone l D T n0 nn nm nl no nu n1 n2 n3 n4 n5 n6 n7 n8 n9 n10 (by first | assumption | omega)) w_682 w_463 w_464 w_3 w_465 (by decide +kernel) rfl ⟨(Nat.le_of_ble_eq_true rfl), (Nat.le_of_ble_eq_true rfl)⟩ 1 (ci := 5) rfl rfl [1] rfl rfl (Nat.le_of_ble_eq_true rfl) dX7_warm_55 ⟨(Nat.le_of_ble_eq_true rfl), (Nat.le_of_ble_eq_true rfl)⟩ rfl (fun r w1 H locs hQ V => ?_)
        obtain ⟨rfl, rfl⟩ := hQ
        have V : gW D T A s [(o, .inr (7, [.ref n0, .ref s0, .ref im, .ref iz, .ref rw, .ref t0, .ref u0, .ref h0, .ref y0, sv])), (n0, .inr (5, [.int (nI nn), .int nm, .int nl, .int no, .int nu, .ref n1, .ref n2, .ref n3, .ref n4, .ref n5, .ref n6, .ref n7, .ref n8, .ref n9, .ref n10])), (n1, .inl (T 0, 10, .inl nf1)), (n2, .inl (T 0, 10, .inl nf2)), (n3, .inl (T 0, 10, .inl nf3)), (n9, .inl (T 0, 10, .inl nf9))] H locs := V _ [1] rfl rfl rfl (by decide +kernel) rfl
        show W p l e _ s m args below meth c H locs _ _ _ (F0 m 58 ls [.int (nI (2 ^ nn - 1)), .int (nI j_1), .ref n0])
        refine g_callVU (nA := 2) hC V hl.1 (s_blastOn_f l D T fa n0 j_1 (nI (2 ^ nn - 1)) nn nm nl no nu n1 n2 n3 n4 n5 n6 n7 n8 n9 n10 nf1 nf9 (by first | assumption | omega) (fun i hi => (h_sr.2.2.2.2 i hi).1) (fun i hi => (h_sr.2.2.2.2 i hi).2.2.2.2.2.2.2)) w_850 w_700 w_701 w_3 w_702 (by decide +kernel) rfl ⟨(Nat.le_of_ble_eq_true rfl), (Nat.le_of_ble_eq_true rfl)⟩ 1 (ci := 5) rfl rfl [1, 2, 5] rfl rfl (Nat.le_of_ble_eq_true rfl) dX7_warm_58 ⟨(Nat.le_of_ble_eq_true rfl), (Nat.le_of_ble_eq_true rfl)⟩ rfl (fun r w1 H locs hQ V => ?_)
        obtain ⟨z_9, rfl, rfl, f_10⟩ := hQ
        have V : gW D T A s [(o, .inr (7, [.ref n0, .ref s0, .ref im, .ref iz, .ref rw, .ref t0, .ref u0, .ref h0, .ref y0, sv])), (n0, .inr (5, [.int (nI nn), .int nm, .int nl, .int no, .int nu, .ref n1, .ref n2, .ref n3, .ref n4, .ref n5, .ref n6, .ref n7, .ref n8, .ref n9, .ref n10])), (n1, .inl (T 0, 10, .inl nf1)), (n2, .inl (T 0, 10, .inl nf2)), (n3, .inl (T 0, 10, .inl nf3)), (n9, .inl (T 0, 10, .inl nf9))] H locs := V _ [1, 0, 2] rfl rfl rfl (by decide +kernel) rfl
        show W p l e _ s m args below meth c H locs _ _ _ (F0 m 61 ls [.int z_9])
        refine lv_aload_n hx hb dX7_warm_61 rfl (lv_at hl 1 rfl) ?_
        refine g_get hC V (ci := 7) uwX7 0 rfl rfl 0 (by decide) w_249 rfl rfl dX7_warm_62 ?_
        refine g_get hC V (ci := 5) uwX5 1 rfl rfl 6 (by decide) w_60 rfl rfl dX7_warm_65 ?_
        refine lv_iload_n hx hb dX7_warm_68 rfl (lv_at hl 2 rfl) ?_
        refine g_iald hC V 3 rfl (vp_in_nI (by omega) (by omega)) (v := (nf2 j_1)) (congrArg _ (nI_clamp (by omega))) dX7_warm_69 ?_
        refine lv_isub hx hb dX7_warm_70 ?_
        refine lv_istore (lv' := [(4, .int (z_9 - (nf2 j_1))), (3, .int ((nI jh) - (nf3 j_1))), (0, .ref o), (1, .int (nI j_1)), (2, .int (nI jh))]) hx hb dX7_warm_71 hl (by decide) rfl (fun ls hl => ?_)
        refine lv_iload hx hb dX7_warm_73 (lv_at hl 0 rfl) ?_
        refine lv_if_gt (tgt := 82) hx hb dX7_warm_75 (by decide) (fun c_11 => ?_) (fun c_11 => ?_)
        · skip
          have hgn : ∀ x : Int32, 0 < x → ¬ x = 0 := fun x h e => absurd (e ▸ h) (by decide +kernel)
          have hG : z_9 - nf2 j_1 = gnW nn fa j_1 := by rw [f_10, bF_all h_n nn (Nat.le_refl _), (h_sr.2.2.2.2 j_1 f_3).2.1]; rfl
          obtain ⟨q_, hq1, hq2, eq_⟩ := gn_1 h_a f_3 (by rw [← hG]; exact c_11)
          refine lv_iload_n hx hb dX7_warm_82 rfl (lv_at hl 1 rfl) ?_
          refine lv_iload hx hb dX7_warm_83 (lv_at hl 0 rfl) ?_
          refine lv_iadd hx hb dX7_warm_85 ?_
          refine lv_iconst (v := (nI 1)) hx hb dX7_warm_86 (by decide +kernel) ?_
          refine lv_isub hx hb dX7_warm_87 ?_
          refine lv_iload hx hb dX7_warm_88 (lv_at hl 0 rfl) ?_
          refine lv_idiv hx hb dX7_warm_90 (hgn _ (by assumption)) ?_
          exact g_iret (Qr := (q_x_warm_f T nf4 nf5 nf6 nf7 fa o i ht n0 s0 im iz rw t0 u0 h0 y0 sv nn nm nl no nu n1 n2 n3 n4 n5 n6 n7 n8 n9 n10 nf1 nf2 nf3 nf9)) hC V ⟨(Nat.le_of_ble_eq_true rfl), (Nat.le_of_ble_eq_true rfl)⟩ ⟨(((((nI jh) - (nf3 j_1)) + (z_9 - (nf2 j_1))) - (nI 1)) / (z_9 - (nf2 j_1))), rfl, rfl, (wm_y (f := fa) h_n f_2 f_3 f_5 f_6 ejh (by omega) eja hja (by rw [eq_, nI_clamp (by omega)]; exact wg_d (by rw [e3a]) hlk (by omega) (hG.trans eq_) hq1 hq2))⟩ dX7_warm_91
        · skip
          have hG : z_9 - nf2 j_1 = gnW nn fa j_1 := by rw [f_10, bF_all h_n nn (Nat.le_refl _), (h_sr.2.2.2.2 j_1 f_3).2.1]; rfl
          have hq0 := gn_0 (x := gnW nn fa j_1) (by rw [← hG]; exact c_11)
          refine lv_iconst (v := (-1)) hx hb dX7_warm_78 (by decide +kernel) ?_
          refine lv_goto (tgt := 91) hx hb dX7_warm_79 (by decide) ?_
          exact g_iret (Qr := (q_x_warm_f T nf4 nf5 nf6 nf7 fa o i ht n0 s0 im iz rw t0 u0 h0 y0 sv nn nm nl no nu n1 n2 n3 n4 n5 n6 n7 n8 n9 n10 nf1 nf2 nf3 nf9)) hC V ⟨(Nat.le_of_ble_eq_true rfl), (Nat.le_of_ble_eq_true rfl)⟩ ⟨(-1), rfl, rfl, (wm_y (f := fa) h_n f_2 f_3 f_5 f_6 ejh (by omega) eja hja (wg_1 hlk hq0))⟩ dX7_warm_91
      · skip
        refine lv_iconst (v := (nI 0)) hx hb dX7_warm_44 (by decide +kernel) ?_
        exact g_iret (Qr := (q_x_warm_f T nf4 nf5 nf6 nf7 fa o i ht n0 s0 im iz rw t0 u0 h0 y0 sv nn nm nl no nu n1 n2 n3 n4 n5 n6 n7 n8 n9 n10 nf1 nf2 nf3 nf9)) hC V ⟨(Nat.le_of_ble_eq_true rfl), (Nat.le_of_ble_eq_true rfl)⟩ ⟨(nI 0), rfl, rfl, (wm_y (f := fa) h_n f_2 f_3 f_5 f_6 ejh (by omega) eja hja (wg_0 (lk_0 e3a hja (by omega) c_8)))⟩ dX7_warm_45
    · have V : gW D T A s [(o, .inr (7, [.ref n0, .ref s0, .ref im, .ref iz, .ref rw, .ref t0, .ref u0, .ref h0, .ref y0, sv])), (n0, .inr (5, [.int (nI nn), .int nm, .int nl, .int no, .int nu, .ref n1, .ref n2, .ref n3, .ref n4, .ref n5, .ref n6, .ref n7, .ref n8, .ref n9, .ref n10])), (n1, .inl (T 0, 10, .inl nf1)), (n2, .inl (T 0, 10, .inl nf2)), (n3, .inl (T 0, 10, .inl nf3)), (n9, .inl (T 0, 10, .inl nf9))] H locs := V _ [] rfl rfl rfl (by decide +kernel) rfl
      show W p l e _ s m args below meth c H locs _ _ _ (F0 m 22 ls [.int (nI 0)])
      refine lv_if_ne (tgt := 28) hx hb dX7_warm_22 (by decide) (fun c => absurd (show (nI 0) = 0 by decide +kernel) c) (fun _ => ?_)
      refine lv_bipush (v := (-3)) hx hb dX7_warm_25 (by decide +kernel) ?_
      exact g_iret (Qr := (q_x_warm_f T nf4 nf5 nf6 nf7 fa o i ht n0 s0 im iz rw t0 u0 h0 y0 sv nn nm nl no nu n1 n2 n3 n4 n5 n6 n7 n8 n9 n10 nf1 nf2 nf3 nf9)) hC V ⟨(Nat.le_of_ble_eq_true rfl), (Nat.le_of_ble_eq_true rfl)⟩ ⟨(-3), rfl, rfl, (wm_3 (f := fa) h_n f_2 f_3 f_7)⟩ dX7_warm_27
  · have V : gW D T A s [(o, .inr (7, [.ref n0, .ref s0, .ref im, .ref iz, .ref rw, .ref t0, .ref u0, .ref h0, .ref y0, sv])), (n0, .inr (5, [.int (nI nn), .int nm, .int nl, .int no, .int nu, .ref n1, .ref n2, .ref n3, .ref n4, .ref n5, .ref n6, .ref n7, .ref n8, .ref n9, .ref n10])), (n1, .inl (T 0, 10, .inl nf1)), (n2, .inl (T 0, 10, .inl nf2)), (n3, .inl (T 0, 10, .inl nf3)), (n9, .inl (T 0, 10, .inl nf9))] H locs := V _ [1] rfl rfl rfl (by decide +kernel) rfl
    show W p l e _ s m args below meth c H locs _ _ _ (F0 m 8 ls [.int (nI 0)])
    refine lv_if_ne (tgt := 14) hx hb dX7_warm_8 (by decide) (fun c => absurd (show (nI 0) = 0 by decide +kernel) c) (fun _ => ?_)
    refine lv_bipush (v := (-2)) hx hb dX7_warm_11 (by decide +kernel) ?_
    exact g_iret (Qr := (q_x_warm_f T nf4 nf5 nf6 nf7 fa o i ht n0 s0 im iz rw t0 u0 h0 y0 sv nn nm nl no nu n1 n2 n3 n4 n5 n6 n7 n8 n9 n10 nf1 nf2 nf3 nf9)) hC V ⟨(Nat.le_of_ble_eq_true rfl), (Nat.le_of_ble_eq_true rfl)⟩ ⟨(-2), rfl, rfl, (wm_o f_4)⟩ dX7_warm_13
