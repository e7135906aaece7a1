/-! WAVES -/
theorem xr_pos {x y : Nat} (hx : x < 131072) (hy : y < 131072) : 0 ≤ nI x ^^^ nI y := by
  have e : nI x ^^^ nI y = nI (x ^^^ y) := Int32.toBitVec_inj.mp (show BitVec.ofNat 32 x ^^^ BitVec.ofNat 32 y = BitVec.ofNat 32 (x ^^^ y) from BitVec.ofNat_xor.symm)
  have h : x ^^^ y < 2 ^ 17 := Nat.xor_lt_two_pow (by omega) (by omega)
  rw [e]; exact Int32.not_lt.mp (nI_pos (by omega))
def wvP (s L : Nat) : Nat → Int32 := fun i => (nI 1) <<< ((nI (i * s % L)) &&& 31)
theorem lw_b {m t : Nat} (hm : m < 13) (ht : t < 13) : lbP ((nI 1).toInt64 <<< ((nI m).toInt64 &&& 63)) t ↔ bitP ((nI 1) <<< ((nI m) &&& 31)) t := by
  have H : ∀ m t : Fin 13, (lg_cmp (((nI 1).toInt64 <<< ((nI m.1).toInt64 &&& 63)) >>> ((nI t.1).toInt64 &&& 63) &&& (nI 1).toInt64) (nI 1).toInt64 = 0) ↔ (¬ ((((nI 1) <<< ((nI m.1) &&& 31)) >>> (nI t.1 &&& 31)) &&& nI 1) = 0) := by decide +kernel
  exact H ⟨m, hm⟩ ⟨t, ht⟩
theorem lw_p {s L i t : Nat} (hL : 1 ≤ L) (hL2 : L ≤ 12) (ht : t < L) : lbP ((nI 1).toInt64 <<< ((nI (i * s % L)).toInt64 &&& 63)) t ↔ bitP (wvP s L i) t := lw_b (by have := Nat.mod_lt (i * s) (show 0 < L by omega); omega) (by omega)
/-- the answer of RHYTHMS, as there is but one -/
noncomputable def hoZ (n : Nat) (f P : Nat → Int32) (L : Nat) : Int32 := Classical.epsilon (fun z => ∃ w, HO n f P L n z w)
theorem hz_of {n : Nat} {f P : Nat → Int32} {L : Nat} {z w : Int32} (h : HO n f P L n z w) : z = hoZ n f P L := by
  have q : ∃ z, ∃ w, HO n f P L n z w := ⟨z, w, h⟩
  obtain ⟨w', h'⟩ := Classical.epsilon_spec q
  exact (ho_one h h').1
noncomputable def wvA (n : Nat) (f : Nat → Int32) (le st : Int32) : Int32 := if le < nI 1 ∨ nI 12 < le then -3 else if st < nI 0 ∨ le - nI 1 < st then -3 else hoZ n f (wvP st.toNatClampNeg le.toNatClampNeg) le.toNatClampNeg
theorem wv_3 {n : Nat} {f : Nat → Int32} {le st : Int32} (c : le < nI 1 ∨ nI 12 < le) : -3 = wvA n f le st := by unfold wvA; rw [if_pos c]
theorem wv_4 {n L : Nat} {f : Nat → Int32} {le st : Int32} (c1 : ¬ le < nI 1) (c2 : ¬ nI 12 < le) (el : le = nI L) (h1 : 1 ≤ L) (d : st < nI 0 ∨ nI (L - 1) < st) : -3 = wvA n f le st := by
  unfold wvA; rw [if_neg (fun q => q.elim c1 c2), el, nI_sub h1, if_pos d]
theorem wv_y {n L s : Nat} {f : Nat → Int32} {le st z : Int32} (c1 : ¬ le < nI 1) (c2 : ¬ nI 12 < le) (el : le = nI L) (h1 : 1 ≤ L) (h2 : L ≤ 12) (d1 : ¬ st < nI 0) (d2 : ¬ nI (L - 1) < st) (es : st = nI s) (hs : s ≤ L - 1) (ez : z = hoZ n f (wvP s L) L) : z = wvA n f le st := by
  unfold wvA; rw [if_neg (fun q => q.elim c1 c2), el, nI_sub h1, if_neg (fun q => q.elim d1 d2), nI_clamp (by omega), es, nI_clamp (by omega)]; exact ez
/-! the best WAVE -/
noncomputable def bwG (n : Nat) (f : Nat → Int32) (L : Nat) : Nat → Nat → Int32 → Int32 → Int32
  | 0, _, b, _ => b
  | fu + 1, s, b, m => if hoZ n f (wvP s L) L = -1 then nI s else if m < hoZ n f (wvP s L) L then bwG n f L fu (s + 1) (nI s) (hoZ n f (wvP s L) L) else bwG n f L fu (s + 1) b m
theorem bw_f {n L s : Nat} {f : Nat → Int32} {b m z : Int32} (hs : s < L) (ez : z = hoZ n f (wvP s L) L) (c : z = -1) : bwG n f L (L - s) s b m = nI s := by
  rw [show L - s = (L - (s + 1)) + 1 by omega]
  show (if hoZ n f (wvP s L) L = -1 then nI s else _) = _
  rw [if_pos (ez.symm.trans c)]
theorem bw_y {n L s : Nat} {f : Nat → Int32} {b m z : Int32} (hs : s < L) (ez : z = hoZ n f (wvP s L) L) (c : ¬ z = -1) (d : m < z) : bwG n f L (L - s) s b m = bwG n f L (L - (s + 1)) (s + 1) (nI s) z := by
  rw [show L - s = (L - (s + 1)) + 1 by omega]
  show (if hoZ n f (wvP s L) L = -1 then nI s else if m < hoZ n f (wvP s L) L then bwG n f L (L - (s + 1)) (s + 1) (nI s) (hoZ n f (wvP s L) L) else bwG n f L (L - (s + 1)) (s + 1) b m) = _
  rw [← ez, if_neg c, if_pos d]
theorem bw_n {n L s : Nat} {f : Nat → Int32} {b m z : Int32} (hs : s < L) (ez : z = hoZ n f (wvP s L) L) (c : ¬ z = -1) (d : ¬ m < z) : bwG n f L (L - s) s b m = bwG n f L (L - (s + 1)) (s + 1) b m := by
  rw [show L - s = (L - (s + 1)) + 1 by omega]
  show (if hoZ n f (wvP s L) L = -1 then nI s else if m < hoZ n f (wvP s L) L then bwG n f L (L - (s + 1)) (s + 1) (nI s) (hoZ n f (wvP s L) L) else bwG n f L (L - (s + 1)) (s + 1) b m) = _
  rw [← ez, if_neg c, if_neg d]
theorem bw_e {n L s : Nat} {f : Nat → Int32} {b m : Int32} (hs : ¬ s < L) : bwG n f L (L - s) s b m = b := by
  rw [show L - s = 0 by omega]; rfl
noncomputable def bwA (n : Nat) (f : Nat → Int32) (le : Int32) : Int32 := if le < nI 1 ∨ nI 12 < le then -3 else bwG n f le.toNatClampNeg le.toNatClampNeg 0 (nI 0) (nI 0)
theorem bwa_3 {n : Nat} {f : Nat → Int32} {le : Int32} (c : le < nI 1 ∨ nI 12 < le) : -3 = bwA n f le := by unfold bwA; rw [if_pos c]
theorem bwa_y {n L : Nat} {f : Nat → Int32} {le z : Int32} (c1 : ¬ le < nI 1) (c2 : ¬ nI 12 < le) (el : le = nI L) (h2 : L ≤ 12) (ez : bwG n f L L 0 (nI 0) (nI 0) = z) : z = bwA n f le := by
  unfold bwA; rw [if_neg (fun q => q.elim c1 c2), el, nI_clamp (by omega), ez]

def q_floorMod_f (T : Nat → ClassId) (x : Nat) (y : Nat) : Option Value → va_W → Prop := fun rr ww => (rr = some (.int (nI (x % y))) ∧ ww = [])
set_option maxHeartbeats 4000000 in
set_option maxRecDepth 100000 in
theorem c_floorMod_f (l : Launch) (D : va_G) (T : Nat → ClassId) (x : Nat) (y : Nat) (h_x : x < 131072) (h_y : 1 ≤ y) (h_y2 : y < 131072) : Ct l yJ9_floorMod_7cf53 cJ9_floorMod_7cf53 3 (some .int) 0 0 0 D T [.int (nI x), .int (nI y)] [] (q_floorMod_f T x y) := by
  refine Ct.ofF (cc := cJ9_floorMod_7cf53) (maxL := 3) (ret := (some .int)) (by decide +kernel) (Nat.le_of_ble_eq_true rfl) ?_
  intro p e s m args below meth c A ls hC hnm V hl
  obtain ⟨hx, hb, hr, hml, hown, hts, hlocks⟩ := id hC
  generalize hH : s.heap = H at V ⊢
  clear hH
  have hl : lv_has ls 3 [(0, .int (nI x)), (1, .int (nI y))] := hl
  generalize hlo : ([] : List Loc) = locs at V ⊢
  clear hlo
  refine lv_iload_n hx hb dJ9_floorMod_7cf53_0 rfl (lv_at hl 0 rfl) ?_
  refine lv_iload_n hx hb dJ9_floorMod_7cf53_1 rfl (lv_at hl 1 rfl) ?_
  refine lv_irem hx hb dJ9_floorMod_7cf53_2 (nI_ne0 (by omega) (by omega)) ?_
  refine g_vi (y := (nI (x % y))) (nI_rem (by omega) (by omega)) ?_
  refine lv_istore_n (lv' := [(2, .int (nI (x % y))), (0, .int (nI x)), (1, .int (nI y))]) hx hb dJ9_floorMod_7cf53_3 rfl hl (by decide) rfl (fun ls hl => ?_)
  refine lv_iload_n hx hb dJ9_floorMod_7cf53_4 rfl (lv_at hl 1 rfl) ?_
  refine lv_iload_n hx hb dJ9_floorMod_7cf53_5 rfl (lv_at hl 2 rfl) ?_
  refine lv_ixor hx hb dJ9_floorMod_7cf53_6 ?_
  refine lv_if_ge (tgt := 18) hx hb dJ9_floorMod_7cf53_7 (by decide) (fun c_1 => ?_) (fun c_1 => ?_)
  · skip
    refine lv_iload_n hx hb dJ9_floorMod_7cf53_18 rfl (lv_at hl 0 rfl) ?_
    exact g_iret (Qr := (q_floorMod_f T x y)) hC V ⟨(Nat.le_of_ble_eq_true rfl), (Nat.le_of_ble_eq_true rfl)⟩ ⟨rfl, rfl⟩ dJ9_floorMod_7cf53_19
  · skip
    exact (absurd (xr_pos (by omega) (by omega)) c_1 : False).elim

def q_h_takeWave_f (T : Nat → ClassId) (h0 : Nat) (le : Nat) (st : Nat) (h1 : Nat) (qx : Int32) (qy : Int32) (ql : Int32) (h2 : Nat) (h3 : Nat) (qp : Nat → Int32) : Option Value → va_W → Prop := fun rr ww => (∃ (g : Nat → Int32), rr = none ∧ ww = [(h0, .inr (3, [.ref h1, .int qx, .int qy, .int (nI le), .ref h2, .ref h3])), (h2, .inl (T 0, 10, .inl g))] ∧ (∀ i, i < 10 → g i = wvP st le i))
set_option maxHeartbeats 4000000 in
set_option maxRecDepth 100000 in
theorem h_takeWave_f (l : Launch) (D : va_G) (T : Nat → ClassId) (h0 : Nat) (le : Nat) (st : Nat) (h1 : Nat) (qx : Int32) (qy : Int32) (ql : Int32) (h2 : Nat) (h3 : Nat) (qp : Nat → Int32) (h_l : 1 ≤ le ∧ le ≤ 12) (h_st : st ≤ 12) : Ct l yX3_takeWave cX3_takeWave 4 none 1 0 0 D T [.ref h0, .int (nI le), .int (nI st)] [(h0, .inr (3, [.ref h1, .int qx, .int qy, .int ql, .ref h2, .ref h3])), (h2, .inl (T 0, 10, .inl qp))] (q_h_takeWave_f T h0 le st h1 qx qy ql h2 h3 qp) := by
  refine Ct.of (cc := cX3_takeWave) (maxL := 4) (ret := none) (by decide) (Nat.le_of_ble_eq_true rfl) ?_
  intro p e s m args below meth c A ls hC hnm V hl
  obtain ⟨hx, hb, hr, hml, hown, hts, hlocks⟩ := id hC
  generalize hH : s.heap = H at V ⊢
  clear hH
  have hl : lv_has ls 4 [(0, .ref h0), (1, .int (nI le)), (2, .int (nI st))] := hl
  generalize hlo : ([] : List Loc) = locs at V ⊢
  clear hlo
  refine lv_aload_n hx hb dX3_takeWave_0 rfl (lv_at hl 0 rfl) ?_
  refine lv_iload_n hx hb dX3_takeWave_1 rfl (lv_at hl 1 rfl) ?_
  refine g_put hC V (ci := 3) uwX3 tyX3 tyX3_ok nmX3 0 rfl rfl 3 (by decide) w_189 rfl rfl rfl rfl (Nat.le_of_ble_eq_true rfl) (ws' := [(h0, .inr (3, [.ref h1, .int qx, .int qy, .int (nI le), .ref h2, .ref h3])), (h2, .inl (T 0, 10, .inl qp))]) rfl dX3_takeWave_2 (fun H locs V => ?_)
  refine lv_iconst (v := (nI 0)) hx hb dX3_takeWave_5 (by decide +kernel) ?_
  refine lv_istore_n (lv' := [(3, .int (nI 0)), (0, .ref h0), (1, .int (nI le)), (2, .int (nI st))]) hx hb dX3_takeWave_6 rfl hl (by decide) rfl (fun ls hl => ?_)
  have L_1 : ∀ (fu : Nat) (k7 : Nat) (g : Nat → Int32), k7 ≤ 10 → (∀ i, i < k7 → g i = wvP st le i) → 10 - k7 < fu → ∀ (H : Heap) (locs : List Loc) (ls : Array Slot), gW D T A s [(h0, .inr (3, [.ref h1, .int qx, .int qy, .int (nI le), .ref h2, .ref h3])), (h2, .inl (T 0, 10, .inl g))] H locs → lv_has ls 4 [(3, .int (nI k7)), (0, .ref h0), (1, .int (nI le)), (2, .int (nI st))] → W p l e (rmD 1 0 0) s m args below meth c H locs 0 0 (MQ below (gQ D A (q_h_takeWave_f T h0 le st h1 qx qy ql h2 h3 qp)) args s 0 0 A) (F0 m 7 ls []) := by
    intro fu_7
    induction fu_7 with
    | zero => intro k7 g hk7 hg7 hmu; exact absurd hmu (Nat.not_lt_zero _)
    | succ fu_7 ih_7 =>
      intro k7 g hk7 hg7 hmu_7 H locs ls V hl
      refine lv_iload_n hx hb dX3_takeWave_7 rfl (lv_at hl 0 rfl) ?_
      refine lv_bipush (v := (nI 10)) hx hb dX3_takeWave_8 (by decide +kernel) ?_
      refine lv_icmp_ge (tgt := 37) hx hb dX3_takeWave_10 (by decide) (fun c_2 => ?_) (fun c_2 => ?_)
      · skip
        have c_2 := b_le (by omega) (by omega) c_2
        exact g_vret (Qr := (q_h_takeWave_f T h0 le st h1 qx qy ql h2 h3 qp)) hC V ⟨(Nat.le_of_ble_eq_true rfl), (Nat.le_of_ble_eq_true rfl)⟩ ⟨g, rfl, rfl, (fun i hi => hg7 i (by omega))⟩ dX3_takeWave_37
      · skip
        have c_2 := b_nle (by omega) (by omega) c_2
        refine lv_aload_n hx hb dX3_takeWave_13 rfl (lv_at hl 1 rfl) ?_
        refine g_get hC V (ci := 3) uwX3 0 rfl rfl 4 (by decide) w_190 rfl rfl dX3_takeWave_14 ?_
        refine lv_iload_n hx hb dX3_takeWave_17 rfl (lv_at hl 0 rfl) ?_
        refine lv_iconst (v := (nI 1)) hx hb dX3_takeWave_18 (by decide +kernel) ?_
        refine lv_iload_n hx hb dX3_takeWave_19 rfl (lv_at hl 0 rfl) ?_
        refine lv_iload_n hx hb dX3_takeWave_20 rfl (lv_at hl 3 rfl) ?_
        refine lv_imul hx hb dX3_takeWave_21 ?_
        refine g_vi (y := (nI (k7 * st))) (pk_mul _ _) ?_
        refine lv_aload_n hx hb dX3_takeWave_22 rfl (lv_at hl 1 rfl) ?_
        refine g_get hC V (ci := 3) uwX3 0 rfl rfl 3 (by decide) w_189 rfl rfl dX3_takeWave_23 ?_
        refine g_callSU (nA := 2) hC V hl.1 (c_floorMod_f l D T (k7 * st) le (by have := Nat.mul_le_mul (show k7 ≤ 10 by omega) (show st ≤ 12 by omega); omega) (by omega) (by omega)) w_645 w_646 w_10 w_647 (by decide +kernel) rfl ⟨(Nat.le_of_ble_eq_true rfl), (Nat.le_of_ble_eq_true rfl)⟩ [] rfl rfl (Nat.le_of_ble_eq_true rfl) dX3_takeWave_26 ⟨(Nat.le_of_ble_eq_true rfl), (Nat.le_of_ble_eq_true rfl)⟩ rfl (fun r w1 H locs hQ V => ?_)
        obtain ⟨rfl, rfl⟩ := hQ
        have V : gW D T A s [(h0, .inr (3, [.ref h1, .int qx, .int qy, .int (nI le), .ref h2, .ref h3])), (h2, .inl (T 0, 10, .inl g))] H locs := V _ [] rfl rfl rfl (by decide +kernel) rfl
        show W p l e _ s m args below meth c H locs _ _ _ (F0 m 29 ls [.int (nI ((k7 * st) % le)), .int (nI 1), .int (nI k7), .ref h2])
        refine lv_ishl hx hb dX3_takeWave_29 ?_
        refine g_iast hC V 1 rfl (vp_in_nI (by omega) (by omega)) (f' := (upd g k7 ((nI 1) <<< ((nI ((k7 * st) % le)) &&& 31)))) (by rw [nI_clamp (by omega)]) (ws' := [(h0, .inr (3, [.ref h1, .int qx, .int qy, .int (nI le), .ref h2, .ref h3])), (h2, .inl (T 0, 10, .inl (upd g k7 ((nI 1) <<< ((nI ((k7 * st) % le)) &&& 31)))))]) rfl dX3_takeWave_30 (fun H locs V => ?_)
        refine lv_iinc (v := (nI (k7 + 1))) (lv' := [(3, .int (nI (k7 + 1))), (0, .ref h0), (1, .int (nI le)), (2, .int (nI st))]) hx hb dX3_takeWave_31 hl (k := 0) rfl (nI_1 _) (by decide) rfl (fun ls hl => ?_)
        refine lv_goto (tgt := 7) hx hb dX3_takeWave_34 (by decide) ?_
        exact ih_7 (k7 + 1) (upd g k7 ((nI 1) <<< ((nI ((k7 * st) % le)) &&& 31))) (by omega) (up_one (p := fun i x => x = wvP st le i) hg7 rfl) (by omega) _ _ _ V (lv_sub hl [0, 1, 2, 3] rfl)
  exact L_1 _ 0 qp (by omega) (fun i h => absurd h (Nat.not_lt_zero _)) (Nat.lt_succ_self _) _ _ _ V (lv_sub hl [0, 1, 2, 3] rfl)

def q_x_waveBreaks_f (T : Nat → ClassId) (nf6 : Nat → Int32) (nf7 : Nat → Int32) (fa : Nat → Int32) (o : Nat) (le : Nat) (st : Nat) (n0 : Nat) (s0 : Nat) (im : Nat) (iz : Nat) (rw : Nat) (t0 : Nat) (u0 : Nat) (h0 : Nat) (y0 : Nat) (sv : Value) (h1 : Nat) (qx : Int32) (qy : Int32) (ql : Int32) (h2 : Nat) (h3 : Nat) (qb : Nat → Int32) (qp : Nat → Int32) (qc : Nat → Int32) (nn : Nat) (nm : Int32) (nl : Int32) (no : Int32) (nu : Int32) (n1 : Nat) (n2 : Nat) (n3 : Nat) (n4 : Nat) (n5 : Nat) (n6 : Nat) (n7 : Nat) (n8 : Nat) (n9 : Nat) (n10 : Nat) (nf1 : Nat → Int32) (nf2 : Nat → Int32) (nf3 : Nat → Int32) (nf4 : Nat → Int32) (nf5 : Nat → Int32) (nf9 : Nat → Int32) : Option Value → va_W → Prop := fun rr ww => (∃ (z : Int32) (x1 : Int32) (x2 : Int32) (x3 : Int32) (k1 : Nat → Int32) (k2 : Nat → Int32) (k3 : Nat → Int32), rr = some (.int z) ∧ ww = [(o, .inr (7, [.ref n0, .ref s0, .ref im, .ref iz, .ref rw, .ref t0, .ref u0, .ref h0, .ref y0, sv])), (h0, .inr (3, [.ref h1, .int x1, .int x2, .int x3, .ref h2, .ref h3])), (h1, .inl (T 0, 10, .inl k1)), (h2, .inl (T 0, 10, .inl k2)), (h3, .inl (T 0, 12, .inl k3)), (n0, .inr (5, [.int (nI nn), .int nm, .int nl, .int no, .int nu, .ref n1, .ref n2, .ref n3, .ref n4, .ref n5, .ref n6, .ref n7, .ref n8, .ref n9, .ref n10])), (n1, .inl (T 0, 10, .inl nf1)), (n2, .inl (T 0, 10, .inl nf2)), (n3, .inl (T 0, 10, .inl nf3)), (n4, .inl (T 0, 10, .inl nf4)), (n5, .inl (T 0, 10, .inl nf5)), (n9, .inl (T 0, 10, .inl nf9))] ∧ z = hoZ nn fa (wvP st le) le)
set_option maxHeartbeats 4000000 in
set_option maxRecDepth 100000 in
theorem x_waveBreaks_f (l : Launch) (D : va_G) (T : Nat → ClassId) (nf6 : Nat → Int32) (nf7 : Nat → Int32) (fa : Nat → Int32) (o : Nat) (le : Nat) (st : Nat) (n0 : Nat) (s0 : Nat) (im : Nat) (iz : Nat) (rw : Nat) (t0 : Nat) (u0 : Nat) (h0 : Nat) (y0 : Nat) (sv : Value) (h1 : Nat) (qx : Int32) (qy : Int32) (ql : Int32) (h2 : Nat) (h3 : Nat) (qb : Nat → Int32) (qp : Nat → Int32) (qc : Nat → Int32) (nn : Nat) (nm : Int32) (nl : Int32) (no : Int32) (nu : Int32) (n1 : Nat) (n2 : Nat) (n3 : Nat) (n4 : Nat) (n5 : Nat) (n6 : Nat) (n7 : Nat) (n8 : Nat) (n9 : Nat) (n10 : Nat) (nf1 : Nat → Int32) (nf2 : Nat → Int32) (nf3 : Nat → Int32) (nf4 : Nat → Int32) (nf5 : Nat → Int32) (nf9 : Nat → Int32) (h_n : nn ≤ 10) (h_sr : SR nn nm nl no nf1 nf2 nf3 nf4 nf5 nf6 nf7 nf9 fa) (h_a : MI nn fa) (h_lb : LB fa) (h_l : 1 ≤ le ∧ le ≤ 12) (h_st : st ≤ 12) : Ct l yX7_waveBreaksBehind cX7_waveBreaksBehind 3 (some .int) 4 0 0 D T [.ref o, .int (nI le), .int (nI st)] [(o, .inr (7, [.ref n0, .ref s0, .ref im, .ref iz, .ref rw, .ref t0, .ref u0, .ref h0, .ref y0, sv])), (h0, .inr (3, [.ref h1, .int qx, .int qy, .int ql, .ref h2, .ref h3])), (h1, .inl (T 0, 10, .inl qb)), (h2, .inl (T 0, 10, .inl qp)), (h3, .inl (T 0, 12, .inl qc)), (n0, .inr (5, [.int (nI nn), .int nm, .int nl, .int no, .int nu, .ref n1, .ref n2, .ref n3, .ref n4, .ref n5, .ref n6, .ref n7, .ref n8, .ref n9, .ref n10])), (n1, .inl (T 0, 10, .inl nf1)), (n2, .inl (T 0, 10, .inl nf2)), (n3, .inl (T 0, 10, .inl nf3)), (n4, .inl (T 0, 10, .inl nf4)), (n5, .inl (T 0, 10, .inl nf5)), (n9, .inl (T 0, 10, .inl nf9))] (q_x_waveBreaks_f T nf6 nf7 fa o le st n0 s0 im iz rw t0 u0 h0 y0 sv h1 qx qy ql h2 h3 qb qp qc nn nm nl no nu n1 n2 n3 n4 n5 n6 n7 n8 n9 n10 nf1 nf2 nf3 nf4 nf5 nf9) := by
  refine Ct.of (cc := cX7_waveBreaksBehind) (maxL := 3) (ret := (some .int)) (by decide) (Nat.le_of_ble_eq_true rfl) ?_
  intro p e s m args below meth c A ls hC hnm V hl
  obtain ⟨hx, hb, hr, hml, hown, hts, hlocks⟩ := id hC
  generalize hH : s.heap = H at V ⊢
  clear hH
  have hl : lv_has ls 3 [(0, .ref o), (1, .int (nI le)), (2, .int (nI st))] := hl
  generalize hlo : ([] : List Loc) = locs at V ⊢
  clear hlo
  refine lv_aload_n hx hb dX7_waveBreaksBehind_0 rfl (lv_at hl 0 rfl) ?_
  refine g_get hC V (ci := 7) uwX7 0 rfl rfl 7 (by decide) w_256 rfl rfl dX7_waveBreaksBehind_1 ?_
  refine lv_iload_n hx hb dX7_waveBreaksBehind_4 rfl (lv_at hl 1 rfl) ?_
  refine lv_iload_n hx hb dX7_waveBreaksBehind_5 rfl (lv_at hl 2 rfl) ?_
  refine g_callVU (nA := 2) hC V hl.1 (h_takeWave_f l D T h0 le st h1 qx qy ql h2 h3 qp ⟨by omega, by omega⟩ (by first | assumption | omega)) w_641 w_642 w_643 w_6 w_644 (by decide +kernel) rfl ⟨(Nat.le_of_ble_eq_true rfl), (Nat.le_of_ble_eq_true rfl)⟩ 1 (ci := 3) rfl rfl [1, 3] rfl rfl (Nat.le_of_ble_eq_true rfl) dX7_waveBreaksBehind_6 ⟨(Nat.le_of_ble_eq_true rfl), (Nat.le_of_ble_eq_true rfl)⟩ rfl (fun r w1 H locs hQ V => ?_)
  obtain ⟨g_1, rfl, rfl, f_2⟩ := hQ
  have V : gW D T A s [(o, .inr (7, [.ref n0, .ref s0, .ref im, .ref iz, .ref rw, .ref t0, .ref u0, .ref h0, .ref y0, sv])), (h0, .inr (3, [.ref h1, .int qx, .int qy, .int (nI le), .ref h2, .ref h3])), (h1, .inl (T 0, 10, .inl qb)), (h2, .inl (T 0, 10, .inl g_1)), (h3, .inl (T 0, 12, .inl qc)), (n0, .inr (5, [.int (nI nn), .int nm, .int nl, .int no, .int nu, .ref n1, .ref n2, .ref n3, .ref n4, .ref n5, .ref n6, .ref n7, .ref n8, .ref n9, .ref n10])), (n1, .inl (T 0, 10, .inl nf1)), (n2, .inl (T 0, 10, .inl nf2)), (n3, .inl (T 0, 10, .inl nf3)), (n4, .inl (T 0, 10, .inl nf4)), (n5, .inl (T 0, 10, .inl nf5)), (n9, .inl (T 0, 10, .inl nf9))] H locs := V _ [1, 1] rfl rfl rfl (by decide +kernel) rfl
  show W p l e _ s m args below meth c H locs _ _ _ (F0 m 9 ls [])
  have htw := f_2
  refine lv_aload_n hx hb dX7_waveBreaksBehind_9 rfl (lv_at hl 0 rfl) ?_
  refine g_get hC V (ci := 7) uwX7 0 rfl rfl 7 (by decide) w_256 rfl rfl dX7_waveBreaksBehind_10 ?_
  refine lv_aload_n hx hb dX7_waveBreaksBehind_13 rfl (lv_at hl 0 rfl) ?_
  refine g_get hC V (ci := 7) uwX7 0 rfl rfl 0 (by decide) w_249 rfl rfl dX7_waveBreaksBehind_14 ?_
  refine g_callVU (nA := 1) hC V hl.1 (h_judgeOn_f l D T fa h0 n0 h1 qx qy le h2 h3 g_1 qc nn nm nl no nu n1 n2 n3 n4 n5 n6 n7 n8 n9 n10 nf1 nf2 nf3 nf4 nf5 nf9 (by first | assumption | omega) ⟨by omega, by omega⟩ (fun i hi => (h_sr.2.2.2.2 i hi).1) (fun i hi => (h_sr.2.2.2.2 i hi).2.1) (fun i hi => (h_sr.2.2.2.2 i hi).2.2.1) (fun i hi => (h_sr.2.2.2.2 i hi).2.2.2.1) (fun i hi => (h_sr.2.2.2.2 i hi).2.2.2.2.1) (fun i hi => (h_sr.2.2.2.2 i hi).2.2.2.2.2.2.2) h_a h_lb) w_610 w_611 w_612 w_6 w_613 (by decide +kernel) rfl ⟨(Nat.le_of_ble_eq_true rfl), (Nat.le_of_ble_eq_true rfl)⟩ 1 (ci := 3) rfl rfl [1, 3, 4, 5, 6, 7, 8, 9, 10, 11] rfl rfl (Nat.le_of_ble_eq_true rfl) dX7_waveBreaksBehind_17 ⟨(Nat.le_of_ble_eq_true rfl), (Nat.le_of_ble_eq_true rfl)⟩ rfl (fun r w1 H locs hQ V => ?_)
  obtain ⟨x1_3, x2_4, g_5, rfl, rfl, f_6⟩ := hQ
  have V : gW D T A s [(o, .inr (7, [.ref n0, .ref s0, .ref im, .ref iz, .ref rw, .ref t0, .ref u0, .ref h0, .ref y0, sv])), (h0, .inr (3, [.ref h1, .int x1_3, .int x2_4, .int (nI le), .ref h2, .ref h3])), (h1, .inl (T 0, 10, .inl qb)), (h2, .inl (T 0, 10, .inl g_1)), (h3, .inl (T 0, 12, .inl g_5)), (n0, .inr (5, [.int (nI nn), .int nm, .int nl, .int no, .int nu, .ref n1, .ref n2, .ref n3, .ref n4, .ref n5, .ref n6, .ref n7, .ref n8, .ref n9, .ref n10])), (n1, .inl (T 0, 10, .inl nf1)), (n2, .inl (T 0, 10, .inl nf2)), (n3, .inl (T 0, 10, .inl nf3)), (n4, .inl (T 0, 10, .inl nf4)), (n5, .inl (T 0, 10, .inl nf5)), (n9, .inl (T 0, 10, .inl nf9))] H locs := V _ [1, 1, 0, 0, 0, 0, 0, 0, 0, 0] rfl rfl rfl (by decide +kernel) rfl
  show W p l e _ s m args below meth c H locs _ _ _ (F0 m 20 ls [])
  refine lv_aload_n hx hb dX7_waveBreaksBehind_20 rfl (lv_at hl 0 rfl) ?_
  refine g_get hC V (ci := 7) uwX7 0 rfl rfl 7 (by decide) w_256 rfl rfl dX7_waveBreaksBehind_21 ?_
  refine g_get hC V (ci := 3) uwX3 1 rfl rfl 1 (by decide) w_186 rfl rfl dX7_waveBreaksBehind_24 ?_
  exact g_iret (Qr := (q_x_waveBreaks_f T nf6 nf7 fa o le st n0 s0 im iz rw t0 u0 h0 y0 sv h1 qx qy ql h2 h3 qb qp qc nn nm nl no nu n1 n2 n3 n4 n5 n6 n7 n8 n9 n10 nf1 nf2 nf3 nf4 nf5 nf9)) hC V ⟨(Nat.le_of_ble_eq_true rfl), (Nat.le_of_ble_eq_true rfl)⟩ ⟨x1_3, x1_3, x2_4, (nI le), qb, g_1, g_5, rfl, rfl, (hz_of (ho_ext (by omega) (fun i hi t _ => iff_of_eq (congrArg (fun x => bitP x t) (htw i (by omega)))) f_6))⟩ dX7_waveBreaksBehind_27

def q_x_wave_f (T : Nat → ClassId) (nf6 : Nat → Int32) (nf7 : Nat → Int32) (fa : Nat → Int32) (o : Nat) (le : Int32) (st : Int32) (n0 : Nat) (s0 : Nat) (im : Nat) (iz : Nat) (rw : Nat) (t0 : Nat) (u0 : Nat) (h0 : Nat) (y0 : Nat) (sv : Value) (h1 : Nat) (qx : Int32) (qy : Int32) (ql : Int32) (h2 : Nat) (h3 : Nat) (qb : Nat → Int32) (qp : Nat → Int32) (qc : Nat → Int32) (nn : Nat) (nm : Int32) (nl : Int32) (no : Int32) (nu : Int32) (n1 : Nat) (n2 : Nat) (n3 : Nat) (n4 : Nat) (n5 : Nat) (n6 : Nat) (n7 : Nat) (n8 : Nat) (n9 : Nat) (n10 : Nat) (nf1 : Nat → Int32) (nf2 : Nat → Int32) (nf3 : Nat → Int32) (nf4 : Nat → Int32) (nf5 : Nat → Int32) (nf9 : Nat → Int32) : Option Value → va_W → Prop := fun rr ww => (∃ (z : Int32) (x1 : Int32) (x2 : Int32) (x3 : Int32) (k1 : Nat → Int32) (k2 : Nat → Int32) (k3 : Nat → Int32), rr = some (.int z) ∧ ww = [(o, .inr (7, [.ref n0, .ref s0, .ref im, .ref iz, .ref rw, .ref t0, .ref u0, .ref h0, .ref y0, sv])), (h0, .inr (3, [.ref h1, .int x1, .int x2, .int x3, .ref h2, .ref h3])), (h1, .inl (T 0, 10, .inl k1)), (h2, .inl (T 0, 10, .inl k2)), (h3, .inl (T 0, 12, .inl k3)), (n0, .inr (5, [.int (nI nn), .int nm, .int nl, .int no, .int nu, .ref n1, .ref n2, .ref n3, .ref n4, .ref n5, .ref n6, .ref n7, .ref n8, .ref n9, .ref n10])), (n1, .inl (T 0, 10, .inl nf1)), (n2, .inl (T 0, 10, .inl nf2)), (n3, .inl (T 0, 10, .inl nf3)), (n4, .inl (T 0, 10, .inl nf4)), (n5, .inl (T 0, 10, .inl nf5)), (n9, .inl (T 0, 10, .inl nf9))] ∧ z = wvA nn fa le st)
set_option maxHeartbeats 4000000 in
set_option maxRecDepth 100000 in
theorem x_wave_f (l : Launch) (D : va_G) (T : Nat → ClassId) (nf6 : Nat → Int32) (nf7 : Nat → Int32) (fa : Nat → Int32) (o : Nat) (le : Int32) (st : Int32) (n0 : Nat) (s0 : Nat) (im : Nat) (iz : Nat) (rw : Nat) (t0 : Nat) (u0 : Nat) (h0 : Nat) (y0 : Nat) (sv : Value) (h1 : Nat) (qx : Int32) (qy : Int32) (ql : Int32) (h2 : Nat) (h3 : Nat) (qb : Nat → Int32) (qp : Nat → Int32) (qc : Nat → Int32) (nn : Nat) (nm : Int32) (nl : Int32) (no : Int32) (nu : Int32) (n1 : Nat) (n2 : Nat) (n3 : Nat) (n4 : Nat) (n5 : Nat) (n6 : Nat) (n7 : Nat) (n8 : Nat) (n9 : Nat) (n10 : Nat) (nf1 : Nat → Int32) (nf2 : Nat → Int32) (nf3 : Nat → Int32) (nf4 : Nat → Int32) (nf5 : Nat → Int32) (nf9 : Nat → Int32) (h_n : nn ≤ 10) (h_sr : SR nn nm nl no nf1 nf2 nf3 nf4 nf5 nf6 nf7 nf9 fa) (h_a : MI nn fa) (h_lb : LB fa) : Ct l yX7_wave cX7_wave 3 (some .int) 5 0 0 D T [.ref o, .int le, .int st] [(o, .inr (7, [.ref n0, .ref s0, .ref im, .ref iz, .ref rw, .ref t0, .ref u0, .ref h0, .ref y0, sv])), (h0, .inr (3, [.ref h1, .int qx, .int qy, .int ql, .ref h2, .ref h3])), (h1, .inl (T 0, 10, .inl qb)), (h2, .inl (T 0, 10, .inl qp)), (h3, .inl (T 0, 12, .inl qc)), (n0, .inr (5, [.int (nI nn), .int nm, .int nl, .int no, .int nu, .ref n1, .ref n2, .ref n3, .ref n4, .ref n5, .ref n6, .ref n7, .ref n8, .ref n9, .ref n10])), (n1, .inl (T 0, 10, .inl nf1)), (n2, .inl (T 0, 10, .inl nf2)), (n3, .inl (T 0, 10, .inl nf3)), (n4, .inl (T 0, 10, .inl nf4)), (n5, .inl (T 0, 10, .inl nf5)), (n9, .inl (T 0, 10, .inl nf9))] (q_x_wave_f T nf6 nf7 fa o le st n0 s0 im iz rw t0 u0 h0 y0 sv h1 qx qy ql h2 h3 qb qp qc nn nm nl no nu n1 n2 n3 n4 n5 n6 n7 n8 n9 n10 nf1 nf2 nf3 nf4 nf5 nf9) := by
  refine Ct.of (cc := cX7_wave) (maxL := 3) (ret := (some .int)) (by decide) (Nat.le_of_ble_eq_true rfl) ?_
  intro p e s m args below meth c A ls hC hnm V hl
  obtain ⟨hx, hb, hr, hml, hown, hts, hlocks⟩ := id hC
  generalize hH : s.heap = H at V ⊢
  clear hH
  have hl : lv_has ls 3 [(0, .ref o), (1, .int le), (2, .int st)] := hl
  generalize hlo : ([] : List Loc) = locs at V ⊢
  clear hlo
  refine lv_iload_n hx hb dX7_wave_0 rfl (lv_at hl 1 rfl) ?_
  refine lv_iconst (v := (nI 1)) hx hb dX7_wave_1 (by decide +kernel) ?_
  refine lv_bipush (v := (nI 12)) hx hb dX7_wave_2 (by decide +kernel) ?_
  refine g_callSU (nA := 3) hC V hl.1 (c_isWithin l D T le (nI 1) (nI 12)) w_292 w_293 w_2 w_294 (by decide +kernel) rfl ⟨(Nat.le_of_ble_eq_true rfl), (Nat.le_of_ble_eq_true rfl)⟩ [] rfl rfl (Nat.le_of_ble_eq_true rfl) dX7_wave_4 ⟨(Nat.le_of_ble_eq_true rfl), (Nat.le_of_ble_eq_true rfl)⟩ rfl (fun r w1 H locs hQ V => ?_)
  rcases hQ with ⟨rfl, rfl, f_1, f_2⟩ | ⟨rfl, rfl, f_3⟩
  · have V : gW D T A s [(o, .inr (7, [.ref n0, .ref s0, .ref im, .ref iz, .ref rw, .ref t0, .ref u0, .ref h0, .ref y0, sv])), (h0, .inr (3, [.ref h1, .int qx, .int qy, .int ql, .ref h2, .ref h3])), (h1, .inl (T 0, 10, .inl qb)), (h2, .inl (T 0, 10, .inl qp)), (h3, .inl (T 0, 12, .inl qc)), (n0, .inr (5, [.int (nI nn), .int nm, .int nl, .int no, .int nu, .ref n1, .ref n2, .ref n3, .ref n4, .ref n5, .ref n6, .ref n7, .ref n8, .ref n9, .ref n10])), (n1, .inl (T 0, 10, .inl nf1)), (n2, .inl (T 0, 10, .inl nf2)), (n3, .inl (T 0, 10, .inl nf3)), (n4, .inl (T 0, 10, .inl nf4)), (n5, .inl (T 0, 10, .inl nf5)), (n9, .inl (T 0, 10, .inl nf9))] H locs := V _ [] rfl rfl rfl (by decide +kernel) rfl
    show W p l e _ s m args below meth c H locs _ _ _ (F0 m 7 ls [.int (nI 1)])
    obtain ⟨i, hi1, hi2, ei⟩ := g_rng (by first | decide | omega) (by first | decide | omega) f_1 f_2
    rw [ei] at hl
    refine lv_if_eq (tgt := 21) hx hb dX7_wave_7 (by decide) (fun c => absurd (show (nI 1) = 0 from c) (by decide +kernel)) (fun _ => ?_)
    refine lv_iload_n hx hb dX7_wave_10 rfl (lv_at hl 2 rfl) ?_
    refine lv_iconst (v := (nI 0)) hx hb dX7_wave_11 (by decide +kernel) ?_
    refine lv_iload_n hx hb dX7_wave_12 rfl (lv_at hl 1 rfl) ?_
    refine lv_iconst (v := (nI 1)) hx hb dX7_wave_13 (by decide +kernel) ?_
    refine lv_isub hx hb dX7_wave_14 ?_
    refine g_vi (y := (nI (i - 1))) (nI_sub (by omega)) ?_
    refine g_callSU (nA := 3) hC V hl.1 (c_isWithin l D T st (nI 0) (nI (i - 1))) w_292 w_293 w_2 w_294 (by decide +kernel) rfl ⟨(Nat.le_of_ble_eq_true rfl), (Nat.le_of_ble_eq_true rfl)⟩ [] rfl rfl (Nat.le_of_ble_eq_true rfl) dX7_wave_15 ⟨(Nat.le_of_ble_eq_true rfl), (Nat.le_of_ble_eq_true rfl)⟩ rfl (fun r w1 H locs hQ V => ?_)
    rcases hQ with ⟨rfl, rfl, f_4, f_5⟩ | ⟨rfl, rfl, f_6⟩
    · have V : gW D T A s [(o, .inr (7, [.ref n0, .ref s0, .ref im, .ref iz, .ref rw, .ref t0, .ref u0, .ref h0, .ref y0, sv])), (h0, .inr (3, [.ref h1, .int qx, .int qy, .int ql, .ref h2, .ref h3])), (h1, .inl (T 0, 10, .inl qb)), (h2, .inl (T 0, 10, .inl qp)), (h3, .inl (T 0, 12, .inl qc)), (n0, .inr (5, [.int (nI nn), .int nm, .int nl, .int no, .int nu, .ref n1, .ref n2, .ref n3, .ref n4, .ref n5, .ref n6, .ref n7, .ref n8, .ref n9, .ref n10])), (n1, .inl (T 0, 10, .inl nf1)), (n2, .inl (T 0, 10, .inl nf2)), (n3, .inl (T 0, 10, .inl nf3)), (n4, .inl (T 0, 10, .inl nf4)), (n5, .inl (T 0, 10, .inl nf5)), (n9, .inl (T 0, 10, .inl nf9))] H locs := V _ [] rfl rfl rfl (by decide +kernel) rfl
      show W p l e _ s m args below meth c H locs _ _ _ (F0 m 18 ls [.int (nI 1)])
      obtain ⟨js, hjs1, hjs2, ejs⟩ := g_rng (by first | decide | omega) (by first | decide | omega) f_4 f_5
      rw [ejs] at hl
      refine lv_if_ne (tgt := 24) hx hb dX7_wave_18 (by decide) (fun _ => ?_) (fun c => absurd (show (nI 1) = 0 from c) (by decide +kernel))
      refine lv_aload_n hx hb dX7_wave_24 rfl (lv_at hl 0 rfl) ?_
      refine lv_iload_n hx hb dX7_wave_25 rfl (lv_at hl 1 rfl) ?_
      refine lv_iload_n hx hb dX7_wave_26 rfl (lv_at hl 2 rfl) ?_
      refine g_callV (wr := []) (nA := 2) hC V hl.1 (x_waveBreaks_f l D T nf6 nf7 fa o i js n0 s0 im iz rw t0 u0 h0 y0 sv h1 qx qy ql h2 h3 qb qp qc nn nm nl no nu n1 n2 n3 n4 n5 n6 n7 n8 n9 n10 nf1 nf2 nf3 nf4 nf5 nf9 (by first | assumption | omega) (by first | assumption | omega) (by first | assumption | omega) (by first | assumption | omega) ⟨by omega, by omega⟩ (by omega)) w_637 w_639 w_s20 w_2 w_640 (by decide +kernel) rfl ⟨(Nat.le_of_ble_eq_true rfl), (Nat.le_of_ble_eq_true rfl)⟩ 0 (ci := 7) rfl rfl [0, 1, 2, 3, 4, 5, 6, 7, 8, 9, 10, 11] [] rfl rfl rfl rfl (by decide) (Nat.le_of_ble_eq_true rfl) dX7_wave_27 ⟨(Nat.le_of_ble_eq_true rfl), (Nat.le_of_ble_eq_true rfl)⟩ rfl (fun r w1 H locs hQ V => ?_)
      obtain ⟨z_7, x1_8, x2_9, x3_10, k1_11, k2_12, k3_13, rfl, rfl, f_14⟩ := hQ
      have V : gW D T A s [(o, .inr (7, [.ref n0, .ref s0, .ref im, .ref iz, .ref rw, .ref t0, .ref u0, .ref h0, .ref y0, sv])), (h0, .inr (3, [.ref h1, .int x1_8, .int x2_9, .int x3_10, .ref h2, .ref h3])), (h1, .inl (T 0, 10, .inl k1_11)), (h2, .inl (T 0, 10, .inl k2_12)), (h3, .inl (T 0, 12, .inl k3_13)), (n0, .inr (5, [.int (nI nn), .int nm, .int nl, .int no, .int nu, .ref n1, .ref n2, .ref n3, .ref n4, .ref n5, .ref n6, .ref n7, .ref n8, .ref n9, .ref n10])), (n1, .inl (T 0, 10, .inl nf1)), (n2, .inl (T 0, 10, .inl nf2)), (n3, .inl (T 0, 10, .inl nf3)), (n4, .inl (T 0, 10, .inl nf4)), (n5, .inl (T 0, 10, .inl nf5)), (n9, .inl (T 0, 10, .inl nf9))] H locs := V
      show W p l e _ s m args below meth c H locs _ _ _ (F0 m 30 ls [.int z_7])
      exact g_iret (Qr := (q_x_wave_f T nf6 nf7 fa o le st n0 s0 im iz rw t0 u0 h0 y0 sv h1 qx qy ql h2 h3 qb qp qc nn nm nl no nu n1 n2 n3 n4 n5 n6 n7 n8 n9 n10 nf1 nf2 nf3 nf4 nf5 nf9)) hC V ⟨(Nat.le_of_ble_eq_true rfl), (Nat.le_of_ble_eq_true rfl)⟩ ⟨z_7, x1_8, x2_9, x3_10, k1_11, k2_12, k3_13, rfl, rfl, (wv_y f_1 f_2 ei (by omega) (by omega) f_4 f_5 ejs (by omega) f_14)⟩ dX7_wave_30
    · have V : gW D T A s [(o, .inr (7, [.ref n0, .ref s0, .ref im, .ref iz, .ref rw, .ref t0, .ref u0, .ref h0, .ref y0, sv])), (h0, .inr (3, [.ref h1, .int qx, .int qy, .int ql, .ref h2, .ref h3])), (h1, .inl (T 0, 10, .inl qb)), (h2, .inl (T 0, 10, .inl qp)), (h3, .inl (T 0, 12, .inl qc)), (n0, .inr (5, [.int (nI nn), .int nm, .int nl, .int no, .int nu, .ref n1, .ref n2, .ref n3, .ref n4, .ref n5, .ref n6, .ref n7, .ref n8, .ref n9, .ref n10])), (n1, .inl (T 0, 10, .inl nf1)), (n2, .inl (T 0, 10, .inl nf2)), (n3, .inl (T 0, 10, .inl nf3)), (n4, .inl (T 0, 10, .inl nf4)), (n5, .inl (T 0, 10, .inl nf5)), (n9, .inl (T 0, 10, .inl nf9))] H locs := V _ [] rfl rfl rfl (by decide +kernel) rfl
      show W p l e _ s m args below meth c H locs _ _ _ (F0 m 18 ls [.int (nI 0)])
      refine lv_if_ne (tgt := 24) hx hb dX7_wave_18 (by decide) (fun c => absurd (show (nI 0) = 0 by decide +kernel) c) (fun _ => ?_)
      refine lv_bipush (v := (-3)) hx hb dX7_wave_21 (by decide +kernel) ?_
      exact g_iret (Qr := (q_x_wave_f T nf6 nf7 fa o le st n0 s0 im iz rw t0 u0 h0 y0 sv h1 qx qy ql h2 h3 qb qp qc nn nm nl no nu n1 n2 n3 n4 n5 n6 n7 n8 n9 n10 nf1 nf2 nf3 nf4 nf5 nf9)) hC V ⟨(Nat.le_of_ble_eq_true rfl), (Nat.le_of_ble_eq_true rfl)⟩ ⟨(-3), qx, qy, ql, qb, qp, qc, rfl, rfl, (wv_4 f_1 f_2 ei (by omega) f_6)⟩ dX7_wave_23
  · have V : gW D T A s [(o, .inr (7, [.ref n0, .ref s0, .ref im, .ref iz, .ref rw, .ref t0, .ref u0, .ref h0, .ref y0, sv])), (h0, .inr (3, [.ref h1, .int qx, .int qy, .int ql, .ref h2, .ref h3])), (h1, .inl (T 0, 10, .inl qb)), (h2, .inl (T 0, 10, .inl qp)), (h3, .inl (T 0, 12, .inl qc)), (n0, .inr (5, [.int (nI nn), .int nm, .int nl, .int no, .int nu, .ref n1, .ref n2, .ref n3, .ref n4, .ref n5, .ref n6, .ref n7, .ref n8, .ref n9, .ref n10])), (n1, .inl (T 0, 10, .inl nf1)), (n2, .inl (T 0, 10, .inl nf2)), (n3, .inl (T 0, 10, .inl nf3)), (n4, .inl (T 0, 10, .inl nf4)), (n5, .inl (T 0, 10, .inl nf5)), (n9, .inl (T 0, 10, .inl nf9))] H locs := V _ [] rfl rfl rfl (by decide +kernel) rfl
    show W p l e _ s m args below meth c H locs _ _ _ (F0 m 7 ls [.int (nI 0)])
    refine lv_if_eq (tgt := 21) hx hb dX7_wave_7 (by decide) (fun _ => ?_) (fun c => absurd (show (nI 0) = 0 by decide +kernel) c)
    refine lv_bipush (v := (-3)) hx hb dX7_wave_21 (by decide +kernel) ?_
    exact g_iret (Qr := (q_x_wave_f T nf6 nf7 fa o le st n0 s0 im iz rw t0 u0 h0 y0 sv h1 qx qy ql h2 h3 qb qp qc nn nm nl no nu n1 n2 n3 n4 n5 n6 n7 n8 n9 n10 nf1 nf2 nf3 nf4 nf5 nf9)) hC V ⟨(Nat.le_of_ble_eq_true rfl), (Nat.le_of_ble_eq_true rfl)⟩ ⟨(-3), qx, qy, ql, qb, qp, qc, rfl, rfl, (wv_3 f_3)⟩ dX7_wave_23

def q_x_bestWave_f (T : Nat → ClassId) (nf6 : Nat → Int32) (nf7 : Nat → Int32) (fa : Nat → Int32) (o : Nat) (le : Int32) (n0 : Nat) (s0 : Nat) (im : Nat) (iz : Nat) (rw : Nat) (t0 : Nat) (u0 : Nat) (h0 : Nat) (y0 : Nat) (sv : Value) (h1 : Nat) (qx : Int32) (qy : Int32) (ql : Int32) (h2 : Nat) (h3 : Nat) (qb : Nat → Int32) (qp : Nat → Int32) (qc : Nat → Int32) (nn : Nat) (nm : Int32) (nl : Int32) (no : Int32) (nu : Int32) (n1 : Nat) (n2 : Nat) (n3 : Nat) (n4 : Nat) (n5 : Nat) (n6 : Nat) (n7 : Nat) (n8 : Nat) (n9 : Nat) (n10 : Nat) (nf1 : Nat → Int32) (nf2 : Nat → Int32) (nf3 : Nat → Int32) (nf4 : Nat → Int32) (nf5 : Nat → Int32) (nf9 : Nat → Int32) : Option Value → va_W → Prop := fun rr ww => (∃ (z : Int32) (x1 : Int32) (x2 : Int32) (x3 : Int32) (k1 : Nat → Int32) (k2 : Nat → Int32) (k3 : Nat → Int32), rr = some (.int z) ∧ ww = [(o, .inr (7, [.ref n0, .ref s0, .ref im, .ref iz, .ref rw, .ref t0, .ref u0, .ref h0, .ref y0, sv])), (h0, .inr (3, [.ref h1, .int x1, .int x2, .int x3, .ref h2, .ref h3])), (h1, .inl (T 0, 10, .inl k1)), (h2, .inl (T 0, 10, .inl k2)), (h3, .inl (T 0, 12, .inl k3)), (n0, .inr (5, [.int (nI nn), .int nm, .int nl, .int no, .int nu, .ref n1, .ref n2, .ref n3, .ref n4, .ref n5, .ref n6, .ref n7, .ref n8, .ref n9, .ref n10])), (n1, .inl (T 0, 10, .inl nf1)), (n2, .inl (T 0, 10, .inl nf2)), (n3, .inl (T 0, 10, .inl nf3)), (n4, .inl (T 0, 10, .inl nf4)), (n5, .inl (T 0, 10, .inl nf5)), (n9, .inl (T 0, 10, .inl nf9))] ∧ z = bwA nn fa le)
set_option maxHeartbeats 4000000 in
set_option maxRecDepth 100000 in
theorem x_bestWave_f (l : Launch) (D : va_G) (T : Nat → ClassId) (nf6 : Nat → Int32) (nf7 : Nat → Int32) (fa : Nat → Int32) (o : Nat) (le : Int32) (n0 : Nat) (s0 : Nat) (im : Nat) (iz : Nat) (rw : Nat) (t0 : Nat) (u0 : Nat) (h0 : Nat) (y0 : Nat) (sv : Value) (h1 : Nat) (qx : Int32) (qy : Int32) (ql : Int32) (h2 : Nat) (h3 : Nat) (qb : Nat → Int32) (qp : Nat → Int32) (qc : Nat → Int32) (nn : Nat) (nm : Int32) (nl : Int32) (no : Int32) (nu : Int32) (n1 : Nat) (n2 : Nat) (n3 : Nat) (n4 : Nat) (n5 : Nat) (n6 : Nat) (n7 : Nat) (n8 : Nat) (n9 : Nat) (n10 : Nat) (nf1 : Nat → Int32) (nf2 : Nat → Int32) (nf3 : Nat → Int32) (nf4 : Nat → Int32) (nf5 : Nat → Int32) (nf9 : Nat → Int32) (h_n : nn ≤ 10) (h_sr : SR nn nm nl no nf1 nf2 nf3 nf4 nf5 nf6 nf7 nf9 fa) (h_a : MI nn fa) (h_lb : LB fa) : Ct l yX7_bestWave cX7_bestWave 6 (some .int) 5 0 0 D T [.ref o, .int le] [(o, .inr (7, [.ref n0, .ref s0, .ref im, .ref iz, .ref rw, .ref t0, .ref u0, .ref h0, .ref y0, sv])), (h0, .inr (3, [.ref h1, .int qx, .int qy, .int ql, .ref h2, .ref h3])), (h1, .inl (T 0, 10, .inl qb)), (h2, .inl (T 0, 10, .inl qp)), (h3, .inl (T 0, 12, .inl qc)), (n0, .inr (5, [.int (nI nn), .int nm, .int nl, .int no, .int nu, .ref n1, .ref n2, .ref n3, .ref n4, .ref n5, .ref n6, .ref n7, .ref n8, .ref n9, .ref n10])), (n1, .inl (T 0, 10, .inl nf1)), (n2, .inl (T 0, 10, .inl nf2)), (n3, .inl (T 0, 10, .inl nf3)), (n4, .inl (T 0, 10, .inl nf4)), (n5, .inl (T 0, 10, .inl nf5)), (n9, .inl (T 0, 10, .inl nf9))] (q_x_bestWave_f T nf6 nf7 fa o le n0 s0 im iz rw t0 u0 h0 y0 sv h1 qx qy ql h2 h3 qb qp qc nn nm nl no nu n1 n2 n3 n4 n5 n6 n7 n8 n9 n10 nf1 nf2 nf3 nf4 nf5 nf9) := by
  refine Ct.of (cc := cX7_bestWave) (maxL := 6) (ret := (some .int)) (by decide) (Nat.le_of_ble_eq_true rfl) ?_
  intro p e s m args below meth c A ls hC hnm V hl
  obtain ⟨hx, hb, hr, hml, hown, hts, hlocks⟩ := id hC
  generalize hH : s.heap = H at V ⊢
  clear hH
  have hl : lv_has ls 6 [(0, .ref o), (1, .int le)] := hl
  generalize hlo : ([] : List Loc) = locs at V ⊢
  clear hlo
  refine lv_iload_n hx hb dX7_bestWave_0 rfl (lv_at hl 1 rfl) ?_
  refine lv_iconst (v := (nI 1)) hx hb dX7_bestWave_1 (by decide +kernel) ?_
  refine lv_bipush (v := (nI 12)) hx hb dX7_bestWave_2 (by decide +kernel) ?_
  refine g_callSU (nA := 3) hC V hl.1 (c_isWithin l D T le (nI 1) (nI 12)) w_292 w_293 w_2 w_294 (by decide +kernel) rfl ⟨(Nat.le_of_ble_eq_true rfl), (Nat.le_of_ble_eq_true rfl)⟩ [] rfl rfl (Nat.le_of_ble_eq_true rfl) dX7_bestWave_4 ⟨(Nat.le_of_ble_eq_true rfl), (Nat.le_of_ble_eq_true rfl)⟩ rfl (fun r w1 H locs hQ V => ?_)
  rcases hQ with ⟨rfl, rfl, f_1, f_2⟩ | ⟨rfl, rfl, f_3⟩
  · have V : gW D T A s [(o, .inr (7, [.ref n0, .ref s0, .ref im, .ref iz, .ref rw, .ref t0, .ref u0, .ref h0, .ref y0, sv])), (h0, .inr (3, [.ref h1, .int qx, .int qy, .int ql, .ref h2, .ref h3])), (h1, .inl (T 0, 10, .inl qb)), (h2, .inl (T 0, 10, .inl qp)), (h3, .inl (T 0, 12, .inl qc)), (n0, .inr (5, [.int (nI nn), .int nm, .int nl, .int no, .int nu, .ref n1, .ref n2, .ref n3, .ref n4, .ref n5, .ref n6, .ref n7, .ref n8, .ref n9, .ref n10])), (n1, .inl (T 0, 10, .inl nf1)), (n2, .inl (T 0, 10, .inl nf2)), (n3, .inl (T 0, 10, .inl nf3)), (n4, .inl (T 0, 10, .inl nf4)), (n5, .inl (T 0, 10, .inl nf5)), (n9, .inl (T 0, 10, .inl nf9))] H locs := V _ [] rfl rfl rfl (by decide +kernel) rfl
    show W p l e _ s m args below meth c H locs _ _ _ (F0 m 7 ls [.int (nI 1)])
    obtain ⟨i, hi1, hi2, ei⟩ := g_rng (by first | decide | omega) (by first | decide | omega) f_1 f_2
    rw [ei] at hl
    refine lv_if_ne (tgt := 13) hx hb dX7_bestWave_7 (by decide) (fun _ => ?_) (fun c => absurd (show (nI 1) = 0 from c) (by decide +kernel))
    refine lv_iconst (v := (nI 0)) hx hb dX7_bestWave_13 (by decide +kernel) ?_
    refine lv_istore_n (lv' := [(2, .int (nI 0)), (0, .ref o), (1, .int (nI i))]) hx hb dX7_bestWave_14 rfl hl (by decide) rfl (fun ls hl => ?_)
    refine lv_iconst (v := (nI 0)) hx hb dX7_bestWave_15 (by decide +kernel) ?_
    refine lv_istore_n (lv' := [(3, .int (nI 0)), (2, .int (nI 0)), (0, .ref o), (1, .int (nI i))]) hx hb dX7_bestWave_16 rfl hl (by decide) rfl (fun ls hl => ?_)
    refine lv_iconst (v := (nI 0)) hx hb dX7_bestWave_17 (by decide +kernel) ?_
    refine lv_istore (lv' := [(4, .int (nI 0)), (3, .int (nI 0)), (2, .int (nI 0)), (0, .ref o), (1, .int (nI i))]) hx hb dX7_bestWave_18 hl (by decide) rfl (fun ls hl => ?_)
    have L_4 : ∀ (fu : Nat) (kb : Nat) (x2 : Int32) (x3 : Int32) (w1 : Int32) (w2 : Int32) (w3 : Int32) (ga : Nat → Int32) (gb : Nat → Int32) (gc : Nat → Int32), kb ≤ i → bwG nn fa i i 0 (nI 0) (nI 0) = bwG nn fa i (i - kb) kb x2 x3 → i - kb < fu → ∀ (H : Heap) (locs : List Loc) (ls : Array Slot), gW D T A s [(o, .inr (7, [.ref n0, .ref s0, .ref im, .ref iz, .ref rw, .ref t0, .ref u0, .ref h0, .ref y0, sv])), (h0, .inr (3, [.ref h1, .int w1, .int w2, .int w3, .ref h2, .ref h3])), (h1, .inl (T 0, 10, .inl ga)), (h2, .inl (T 0, 10, .inl gb)), (h3, .inl (T 0, 12, .inl gc)), (n0, .inr (5, [.int (nI nn), .int nm, .int nl, .int no, .int nu, .ref n1, .ref n2, .ref n3, .ref n4, .ref n5, .ref n6, .ref n7, .ref n8, .ref n9, .ref n10])), (n1, .inl (T 0, 10, .inl nf1)), (n2, .inl (T 0, 10, .inl nf2)), (n3, .inl (T 0, 10, .inl nf3)), (n4, .inl (T 0, 10, .inl nf4)), (n5, .inl (T 0, 10, .inl nf5)), (n9, .inl (T 0, 10, .inl nf9))] H locs → lv_has ls 6 [(4, .int (nI kb)), (3, .int x3), (2, .int x2), (0, .ref o), (1, .int (nI i))] → W p l e (rmD 5 0 0) s m args below meth c H locs 0 0 (MQ below (gQ D A (q_x_bestWave_f T nf6 nf7 fa o le n0 s0 im iz rw t0 u0 h0 y0 sv h1 qx qy ql h2 h3 qb qp qc nn nm nl no nu n1 n2 n3 n4 n5 n6 n7 n8 n9 n10 nf1 nf2 nf3 nf4 nf5 nf9)) args s 0 0 A) (F0 m 20 ls []) := by
      intro fu_20
      induction fu_20 with
      | zero => intro kb x2 x3 w1 w2 w3 ga gb gc hkb hE hmu; exact absurd hmu (Nat.not_lt_zero _)
      | succ fu_20 ih_20 =>
        intro kb x2 x3 w1 w2 w3 ga gb gc hkb hE hmu_20 H locs ls V hl
        refine lv_iload hx hb dX7_bestWave_20 (lv_at hl 0 rfl) ?_
        refine lv_iload_n hx hb dX7_bestWave_22 rfl (lv_at hl 4 rfl) ?_
        refine lv_icmp_ge (tgt := 62) hx hb dX7_bestWave_23 (by decide) (fun c_5 => ?_) (fun c_5 => ?_)
        · skip
          have c_5 := b_le (by omega) (by omega) c_5
          refine lv_iload_n hx hb dX7_bestWave_62 rfl (lv_at hl 2 rfl) ?_
          exact g_iret (Qr := (q_x_bestWave_f T nf6 nf7 fa o le n0 s0 im iz rw t0 u0 h0 y0 sv h1 qx qy ql h2 h3 qb qp qc nn nm nl no nu n1 n2 n3 n4 n5 n6 n7 n8 n9 n10 nf1 nf2 nf3 nf4 nf5 nf9)) hC V ⟨(Nat.le_of_ble_eq_true rfl), (Nat.le_of_ble_eq_true rfl)⟩ ⟨x2, w1, w2, w3, ga, gb, gc, rfl, rfl, (bwa_y f_1 f_2 ei (by omega) (hE.trans (bw_e (by omega))))⟩ dX7_bestWave_63
        · skip
          have c_5 := b_nle (by omega) (by omega) c_5
          refine lv_aload_n hx hb dX7_bestWave_26 rfl (lv_at hl 3 rfl) ?_
          refine lv_iload_n hx hb dX7_bestWave_27 rfl (lv_at hl 4 rfl) ?_
          refine lv_iload hx hb dX7_bestWave_28 (lv_at hl 0 rfl) ?_
          refine g_callV (wr := []) (nA := 2) hC V hl.1 (x_waveBreaks_f l D T nf6 nf7 fa o i kb n0 s0 im iz rw t0 u0 h0 y0 sv h1 w1 w2 w3 h2 h3 ga gb gc nn nm nl no nu n1 n2 n3 n4 n5 n6 n7 n8 n9 n10 nf1 nf2 nf3 nf4 nf5 nf9 (by first | assumption | omega) (by first | assumption | omega) (by first | assumption | omega) (by first | assumption | omega) ⟨by omega, by omega⟩ (by omega)) w_637 w_639 w_s20 w_2 w_640 (by decide +kernel) rfl ⟨(Nat.le_of_ble_eq_true rfl), (Nat.le_of_ble_eq_true rfl)⟩ 0 (ci := 7) rfl rfl [0, 1, 2, 3, 4, 5, 6, 7, 8, 9, 10, 11] [] rfl rfl rfl rfl (by decide) (Nat.le_of_ble_eq_true rfl) dX7_bestWave_30 ⟨(Nat.le_of_ble_eq_true rfl), (Nat.le_of_ble_eq_true rfl)⟩ rfl (fun r w1 H locs hQ V => ?_)
          obtain ⟨z_6, x1_7, x2_8, x3_9, k1_10, k2_11, k3_12, rfl, rfl, f_13⟩ := hQ
          have V : gW D T A s [(o, .inr (7, [.ref n0, .ref s0, .ref im, .ref iz, .ref rw, .ref t0, .ref u0, .ref h0, .ref y0, sv])), (h0, .inr (3, [.ref h1, .int x1_7, .int x2_8, .int x3_9, .ref h2, .ref h3])), (h1, .inl (T 0, 10, .inl k1_10)), (h2, .inl (T 0, 10, .inl k2_11)), (h3, .inl (T 0, 12, .inl k3_12)), (n0, .inr (5, [.int (nI nn), .int nm, .int nl, .int no, .int nu, .ref n1, .ref n2, .ref n3, .ref n4, .ref n5, .ref n6, .ref n7, .ref n8, .ref n9, .ref n10])), (n1, .inl (T 0, 10, .inl nf1)), (n2, .inl (T 0, 10, .inl nf2)), (n3, .inl (T 0, 10, .inl nf3)), (n4, .inl (T 0, 10, .inl nf4)), (n5, .inl (T 0, 10, .inl nf5)), (n9, .inl (T 0, 10, .inl nf9))] H locs := V
          show W p l e _ s m args below meth c H locs _ _ _ (F0 m 33 ls [.int z_6])
          refine lv_istore (lv' := [(5, .int z_6), (4, .int (nI kb)), (3, .int x3), (2, .int x2), (0, .ref o), (1, .int (nI i))]) hx hb dX7_bestWave_33 hl (by decide) rfl (fun ls hl => ?_)
          refine lv_iload hx hb dX7_bestWave_35 (lv_at hl 0 rfl) ?_
          refine lv_iconst (v := (-1)) hx hb dX7_bestWave_37 (by decide +kernel) ?_
          refine lv_icmp_ne (tgt := 44) hx hb dX7_bestWave_38 (by decide) (fun c_14 => ?_) (fun c_14 => ?_)
          · skip
            refine lv_iload hx hb dX7_bestWave_44 (lv_at hl 0 rfl) ?_
            refine lv_iload_n hx hb dX7_bestWave_46 rfl (lv_at hl 2 rfl) ?_
            refine lv_icmp_le (tgt := 56) hx hb dX7_bestWave_47 (by decide) (fun c_15 => ?_) (fun c_15 => ?_)
            · skip
              refine lv_iinc (v := (nI (kb + 1))) (lv' := [(4, .int (nI (kb + 1))), (5, .int z_6), (3, .int x3), (2, .int x2), (0, .ref o), (1, .int (nI i))]) hx hb dX7_bestWave_56 hl (k := 1) rfl (nI_1 _) (by decide) rfl (fun ls hl => ?_)
              refine lv_goto (tgt := 20) hx hb dX7_bestWave_59 (by decide) ?_
              exact ih_20 (kb + 1) x2 x3 x1_7 x2_8 x3_9 k1_10 k2_11 k3_12 (by omega) (hE.trans (bw_n (by omega) f_13 c_14 (Int32.not_lt.mpr c_15))) (by omega) _ _ _ V (lv_sub hl [0, 2, 3, 4, 5] rfl)
            · skip
              refine lv_iload hx hb dX7_bestWave_50 (lv_at hl 0 rfl) ?_
              refine lv_istore_n (lv' := [(3, .int z_6), (5, .int z_6), (4, .int (nI kb)), (2, .int x2), (0, .ref o), (1, .int (nI i))]) hx hb dX7_bestWave_52 rfl hl (by decide) rfl (fun ls hl => ?_)
              refine lv_iload hx hb dX7_bestWave_53 (lv_at hl 2 rfl) ?_
              refine lv_istore_n (lv' := [(2, .int (nI kb)), (3, .int z_6), (5, .int z_6), (4, .int (nI kb)), (0, .ref o), (1, .int (nI i))]) hx hb dX7_bestWave_55 rfl hl (by decide) rfl (fun ls hl => ?_)
              refine lv_iinc (v := (nI (kb + 1))) (lv' := [(4, .int (nI (kb + 1))), (2, .int (nI kb)), (3, .int z_6), (5, .int z_6), (0, .ref o), (1, .int (nI i))]) hx hb dX7_bestWave_56 hl (k := 3) rfl (nI_1 _) (by decide) rfl (fun ls hl => ?_)
              refine lv_goto (tgt := 20) hx hb dX7_bestWave_59 (by decide) ?_
              exact ih_20 (kb + 1) (nI kb) z_6 x1_7 x2_8 x3_9 k1_10 k2_11 k3_12 (by omega) (hE.trans (bw_y (by omega) f_13 c_14 (Int32.not_le.mp c_15))) (by omega) _ _ _ V (lv_sub hl [0, 2, 1, 4, 5] rfl)
          · skip
            refine lv_iload hx hb dX7_bestWave_41 (lv_at hl 1 rfl) ?_
            exact g_iret (Qr := (q_x_bestWave_f T nf6 nf7 fa o le n0 s0 im iz rw t0 u0 h0 y0 sv h1 qx qy ql h2 h3 qb qp qc nn nm nl no nu n1 n2 n3 n4 n5 n6 n7 n8 n9 n10 nf1 nf2 nf3 nf4 nf5 nf9)) hC V ⟨(Nat.le_of_ble_eq_true rfl), (Nat.le_of_ble_eq_true rfl)⟩ ⟨(nI kb), x1_7, x2_8, x3_9, k1_10, k2_11, k3_12, rfl, rfl, (bwa_y f_1 f_2 ei (by omega) (hE.trans (bw_f (by omega) f_13 c_14)))⟩ dX7_bestWave_43
    exact L_4 _ 0 (nI 0) (nI 0) qx qy ql qb qp qc (by omega) rfl (Nat.lt_succ_self _) _ _ _ V (lv_sub hl [0, 1, 2, 3, 4] rfl)
  · have V : gW D T A s [(o, .inr (7, [.ref n0, .ref s0, .ref im, .ref iz, .ref rw, .ref t0, .ref u0, .ref h0, .ref y0, sv])), (h0, .inr (3, [.ref h1, .int qx, .int qy, .int ql, .ref h2, .ref h3])), (h1, .inl (T 0, 10, .inl qb)), (h2, .inl (T 0, 10, .inl qp)), (h3, .inl (T 0, 12, .inl qc)), (n0, .inr (5, [.int (nI nn), .int nm, .int nl, .int no, .int nu, .ref n1, .ref n2, .ref n3, .ref n4, .ref n5, .ref n6, .ref n7, .ref n8, .ref n9, .ref n10])), (n1, .inl (T 0, 10, .inl nf1)), (n2, .inl (T 0, 10, .inl nf2)), (n3, .inl (T 0, 10, .inl nf3)), (n4, .inl (T 0, 10, .inl nf4)), (n5, .inl (T 0, 10, .inl nf5)), (n9, .inl (T 0, 10, .inl nf9))] H locs := V _ [] rfl rfl rfl (by decide +kernel) rfl
    show W p l e _ s m args below meth c H locs _ _ _ (F0 m 7 ls [.int (nI 0)])
    refine lv_if_ne (tgt := 13) hx hb dX7_bestWave_7 (by decide) (fun c => absurd (show (nI 0) = 0 by decide +kernel) c) (fun _ => ?_)
    refine lv_bipush (v := (-3)) hx hb dX7_bestWave_10 (by decide +kernel) ?_
    exact g_iret (Qr := (q_x_bestWave_f T nf6 nf7 fa o le n0 s0 im iz rw t0 u0 h0 y0 sv h1 qx qy ql h2 h3 qb qp qc nn nm nl no nu n1 n2 n3 n4 n5 n6 n7 n8 n9 n10 nf1 nf2 nf3 nf4 nf5 nf9)) hC V ⟨(Nat.le_of_ble_eq_true rfl), (Nat.le_of_ble_eq_true rfl)⟩ ⟨(-3), qx, qy, ql, qb, qp, qc, rfl, rfl, (bwa_3 f_3)⟩ dX7_bestWave_12
