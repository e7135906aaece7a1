/-! the tape: twenty bytes -/
def shB (v : Int32) (s : Nat) : Int32 := v >>> (nI s &&& 31) &&& nI 255
def byV (a b c d e : Int32) (k : Nat) : Int32 := if k < 4 then a else if k < 8 then b else if k < 12 then c else if k < 16 then d else e
def byF (a b c d e : Int32) (k : Nat) : Int32 := shB (byV a b c d e k) (24 - 8 * (k % 4))
theorem and255_8 (x : Int32) : (x &&& nI 255).toInt8 = x.toInt8 := by
  apply Int8.toBitVec_inj.mp
  show (x.toBitVec &&& (nI 255).toBitVec).signExtend 8 = x.toBitVec.signExtend 8
  rw [BitVec.signExtend_eq_setWidth_of_le _ (by decide), BitVec.signExtend_eq_setWidth_of_le _ (by decide)]
  apply BitVec.eq_of_getLsbD_eq
  intro i hi
  have h : ∀ j : Fin 8, (nI 255).toBitVec.getLsbD j.1 = true := by decide +kernel
  have h2 := h ⟨i, hi⟩
  simp only [BitVec.getLsbD_setWidth, BitVec.getLsbD_and]
  rw [h2, Bool.and_true]
theorem and255_bd (x : Int32) : bd (x &&& nI 255) 256 := by
  refine ⟨(x &&& nI 255).toBitVec.toNat, ?_, ?_⟩
  · show (x.toBitVec &&& (nI 255).toBitVec).toNat < 256
    rw [BitVec.toNat_and]
    have : (nI 255).toBitVec.toNat = 255 := by decide +kernel
    rw [this]
    exact Nat.lt_of_le_of_lt Nat.and_le_right (by decide)
  · apply Int32.toBitVec_inj.mp
    apply BitVec.eq_of_toNat_eq
    show _ = (BitVec.ofNat 32 (x &&& nI 255).toBitVec.toNat).toNat
    simp
theorem nar_b (x : Int32) : vp_nar .byte x = x.toInt8.toInt32 := rfl
theorem nar_sh (x : Int32) : vp_nar .byte x.toInt8.toInt32 = sB (x &&& nI 255) := by
  rw [nar_b]
  unfold sB
  rw [and255_8]
  simp
/-- four bytes more, twenty bytes more; and the reference's -/
def fd4 (t : Nat) (tx g : Nat → Int32) (v : Int32) : Prop := (∀ i, i < t → g i = tx i) ∧ g t = sB (shB v 24) ∧ g (t + 1) = sB (shB v 16) ∧ g (t + 2) = sB (shB v 8) ∧ g (t + 3) = sB (shB v 0)
def fdX (t : Nat) (tx g : Nat → Int32) (a b c d e : Int32) : Prop := (∀ i, i < t → g i = tx i) ∧ ∀ k, k < 20 → g (t + k) = sB (byF a b c d e k)
def fdM (t : Nat) (tx g : Nat → Int32) (a b c d e : Int32) : Prop := (∀ i, i < t → g i = tx i) ∧ ∀ k, k < 20 → g (t + k) = byF a b c d e k
theorem fd4_mk {t : Nat} {tx : Nat → Int32} {v : Int32} : fd4 t tx (upd (upd (upd (upd tx t (vp_nar .byte ((v >>> (nI 24 &&& 31)).toInt8.toInt32))) (t + 1) (vp_nar .byte ((v >>> (nI 16 &&& 31)).toInt8.toInt32))) (t + 1 + 1) (vp_nar .byte ((v >>> (nI 8 &&& 31)).toInt8.toInt32))) (t + 1 + 1 + 1) (vp_nar .byte ((v >>> (nI 0 &&& 31)).toInt8.toInt32))) v := by
  refine ⟨fun i hi => ?_, ?_, ?_, ?_, ?_⟩
  · rw [up_other (by omega), up_other (by omega), up_other (by omega), up_other (by omega)]
  · rw [up_other (by omega), up_other (by omega), up_other (by omega), up_same]; exact nar_sh _
  · rw [up_other (by omega), up_other (by omega), up_same]; exact nar_sh _
  · rw [up_other (by omega), show t + 2 = t + 1 + 1 by omega, up_same]; exact nar_sh _
  · rw [show t + 3 = t + 1 + 1 + 1 by omega, up_same]; exact nar_sh _
theorem fd20 {t t1 t2 t3 t4 : Nat} {tx q1 q2 q3 q4 q5 : Nat → Int32} {a b c d e : Int32} (h1 : fd4 t tx q1 a) (e1 : t1 = t + 4) (h2 : fd4 t1 q1 q2 b) (e2 : t2 = t1 + 4) (h3 : fd4 t2 q2 q3 c) (e3 : t3 = t2 + 4) (h4 : fd4 t3 q3 q4 d) (e4 : t4 = t3 + 4) (h5 : fd4 t4 q4 q5 e) : fdX t tx q5 a b c d e := by
  refine ⟨fun i hi => by rw [h5.1 i (by omega), h4.1 i (by omega), h3.1 i (by omega), h2.1 i (by omega), h1.1 i hi], fun k hk => ?_⟩
  exact (match k, hk with
    | 0, _ => by rw [h5.1 (t + 0) (by omega), h4.1 (t + 0) (by omega), h3.1 (t + 0) (by omega), h2.1 (t + 0) (by omega), show t + 0 = t by omega]; exact h1.2.1
    | 1, _ => by rw [h5.1 (t + 1) (by omega), h4.1 (t + 1) (by omega), h3.1 (t + 1) (by omega), h2.1 (t + 1) (by omega), show t + 1 = t + 1 by omega]; exact h1.2.2.1
    | 2, _ => by rw [h5.1 (t + 2) (by omega), h4.1 (t + 2) (by omega), h3.1 (t + 2) (by omega), h2.1 (t + 2) (by omega), show t + 2 = t + 2 by omega]; exact h1.2.2.2.1
    | 3, _ => by rw [h5.1 (t + 3) (by omega), h4.1 (t + 3) (by omega), h3.1 (t + 3) (by omega), h2.1 (t + 3) (by omega), show t + 3 = t + 3 by omega]; exact h1.2.2.2.2
    | 4, _ => by rw [h5.1 (t + 4) (by omega), h4.1 (t + 4) (by omega), h3.1 (t + 4) (by omega), show t + 4 = t1 by omega]; exact h2.2.1
    | 5, _ => by rw [h5.1 (t + 5) (by omega), h4.1 (t + 5) (by omega), h3.1 (t + 5) (by omega), show t + 5 = t1 + 1 by omega]; exact h2.2.2.1
    | 6, _ => by rw [h5.1 (t + 6) (by omega), h4.1 (t + 6) (by omega), h3.1 (t + 6) (by omega), show t + 6 = t1 + 2 by omega]; exact h2.2.2.2.1
    | 7, _ => by rw [h5.1 (t + 7) (by omega), h4.1 (t + 7) (by omega), h3.1 (t + 7) (by omega), show t + 7 = t1 + 3 by omega]; exact h2.2.2.2.2
    | 8, _ => by rw [h5.1 (t + 8) (by omega), h4.1 (t + 8) (by omega), show t + 8 = t2 by omega]; exact h3.2.1
    | 9, _ => by rw [h5.1 (t + 9) (by omega), h4.1 (t + 9) (by omega), show t + 9 = t2 + 1 by omega]; exact h3.2.2.1
    | 10, _ => by rw [h5.1 (t + 10) (by omega), h4.1 (t + 10) (by omega), show t + 10 = t2 + 2 by omega]; exact h3.2.2.2.1
    | 11, _ => by rw [h5.1 (t + 11) (by omega), h4.1 (t + 11) (by omega), show t + 11 = t2 + 3 by omega]; exact h3.2.2.2.2
    | 12, _ => by rw [h5.1 (t + 12) (by omega), show t + 12 = t3 by omega]; exact h4.2.1
    | 13, _ => by rw [h5.1 (t + 13) (by omega), show t + 13 = t3 + 1 by omega]; exact h4.2.2.1
    | 14, _ => by rw [h5.1 (t + 14) (by omega), show t + 14 = t3 + 2 by omega]; exact h4.2.2.2.1
    | 15, _ => by rw [h5.1 (t + 15) (by omega), show t + 15 = t3 + 3 by omega]; exact h4.2.2.2.2
    | 16, _ => by rw [show t + 16 = t4 by omega]; exact h5.2.1
    | 17, _ => by rw [show t + 17 = t4 + 1 by omega]; exact h5.2.2.1
    | 18, _ => by rw [show t + 18 = t4 + 2 by omega]; exact h5.2.2.2.1
    | 19, _ => by rw [show t + 19 = t4 + 3 by omega]; exact h5.2.2.2.2
    | k + 20, h => absurd h (by omega))
theorem by_one {t tq k : Nat} {g : Nat → Int32} {a b c d e x : Int32} (hq : tq = t + k) (h : ∀ j, j < k → g (t + j) = byF a b c d e j) (hx : x = byF a b c d e k) : ∀ j, j < k + 1 → upd g tq x (t + j) = byF a b c d e j := by
  intro j hj
  by_cases q : j = k
  · subst q; rw [hq, up_same]; exact hx
  · rw [up_other (by omega)]; exact h j (by omega)
theorem fd_txt {t : Nat} {tx ft g gt : Nat → Int32} {a b c d e : Int32} (h : TXT t tx ft) (h1 : 880 < t → g = tx) (h2 : ¬ 880 < t → fdX t tx g a b c d e) (h3 : 880 < t → gt = ft) (h4 : ¬ 880 < t → fdM t ft gt a b c d e) : TXT (feedN t) g gt := by
  by_cases q : 880 < t
  · rw [h1 q, h3 q, ← fd_3 q]; exact h
  · rw [← fd_4 (k := t + 20) q rfl]
    obtain ⟨x1, x2⟩ := h2 q
    obtain ⟨m1, m2⟩ := h4 q
    intro i hi
    by_cases r : i < t
    · rw [x1 i r, m1 i r]; exact h i r
    · obtain ⟨k, rfl⟩ : ∃ k, i = t + k := ⟨i - t, by omega⟩
      rw [x2 k (by omega), m2 k (by omega)]
      exact ⟨and255_bd _, rfl⟩
theorem str_ab {n : Int32} {t t2 jn : Nat} (h : n < nI 0 ∨ nI t < n) (e : n = nI jn) (hj : jn ≤ t2) (ht : t = t2) (h9 : t2 ≤ 900) : False := by
  rw [e] at h
  rcases h with h | h
  · exact absurd (b_lt (by omega) (by decide) h) (Nat.not_lt_zero _)
  · have := b_lt (by omega) (by omega) h
    omega

def q_f_putBytes (T : Nat → ClassId) (t0 : Nat) (four : Int32) (tf : Nat) (tu : Int32) (tl : Int32) (t1 : Nat) (te : Int32) (tk : Int32) (tr : Int32) (tb : Int32) (tx : Nat → Int32) : Option Value → va_W → Prop := fun rr ww => (∃ (f2 : Nat) (g : Nat → Int32), rr = none ∧ ww = [(t0, .inr (2, [.int (nI f2), .int tu, .int tl, .ref t1, .int te, .int tk, .int tr, .int tb])), (t1, .inl (T 3, 900, .inl g))] ∧ f2 = tf + 4 ∧ fd4 tf tx g four)
set_option maxHeartbeats 4000000 in
set_option maxRecDepth 100000 in
theorem f_putBytes (l : Launch) (D : va_G) (T : Nat → ClassId) (t0 : Nat) (four : Int32) (tf : Nat) (tu : Int32) (tl : Int32) (t1 : Nat) (te : Int32) (tk : Int32) (tr : Int32) (tb : Int32) (tx : Nat → Int32) (h_f : tf + 4 ≤ 900) : Ct l yX2_putBytes cX2_putBytes 3 none 0 0 0 D T [.ref t0, .int four] [(t0, .inr (2, [.int (nI tf), .int tu, .int tl, .ref t1, .int te, .int tk, .int tr, .int tb])), (t1, .inl (T 3, 900, .inl tx))] (q_f_putBytes T t0 four tf tu tl t1 te tk tr tb tx) := by
  refine Ct.of (cc := cX2_putBytes) (maxL := 3) (ret := none) (by decide) (Nat.le_of_ble_eq_true rfl) ?_
  intro p e s m args below meth c A ls hC hnm V hl
  obtain ⟨hx, hb, hr, hml, hown, hts, hlocks⟩ := id hC
  generalize hH : s.heap = H at V ⊢
  clear hH
  have hl : lv_has ls 3 [(0, .ref t0), (1, .int four)] := hl
  generalize hlo : ([] : List Loc) = locs at V ⊢
  clear hlo
  refine lv_bipush (v := (nI 24)) hx hb dX2_putBytes_0 (by decide +kernel) ?_
  refine lv_istore_n (lv' := [(2, .int (nI 24)), (0, .ref t0), (1, .int four)]) hx hb dX2_putBytes_2 rfl hl (by decide) rfl (fun ls hl => ?_)
  refine lv_iload_n hx hb dX2_putBytes_3 rfl (lv_at hl 0 rfl) ?_
  refine lv_if_lt (tgt := 46) hx hb dX2_putBytes_4 (by decide) (fun c => absurd (show (nI 24) < 0 from c) (by decide +kernel)) (fun _ => ?_)
  refine lv_aload_n hx hb dX2_putBytes_7 rfl (lv_at hl 1 rfl) ?_
  refine g_get hC V (ci := 2) uwX2 0 rfl rfl 0 (by decide) w_129 rfl rfl dX2_putBytes_8 ?_
  refine lv_sipush (v := (nI 900)) hx hb dX2_putBytes_11 (by decide +kernel) ?_
  refine lv_icmp_ge (tgt := 46) hx hb dX2_putBytes_14 (by decide) (fun c_1 => ?_) (fun c_1 => ?_)
  · skip
    have c_1 := b_le (by omega) (by omega) c_1
    exact (by omega : False).elim
  · skip
    have c_1 := b_nle (by omega) (by omega) c_1
    refine lv_aload_n hx hb dX2_putBytes_17 rfl (lv_at hl 1 rfl) ?_
    refine g_get hC V (ci := 2) uwX2 0 rfl rfl 3 (by decide) w_134 rfl rfl dX2_putBytes_18 ?_
    refine lv_aload_n hx hb dX2_putBytes_21 rfl (lv_at hl 1 rfl) ?_
    refine g_get hC V (ci := 2) uwX2 0 rfl rfl 0 (by decide) w_129 rfl rfl dX2_putBytes_22 ?_
    refine lv_iload_n hx hb dX2_putBytes_25 rfl (lv_at hl 2 rfl) ?_
    refine lv_iload_n hx hb dX2_putBytes_26 rfl (lv_at hl 0 rfl) ?_
    refine lv_ishr hx hb dX2_putBytes_27 ?_
    refine lv_i2b hx hb dX2_putBytes_28 rfl ?_
    refine g_bast hC V 1 rfl (vp_in_nI (by omega) (by omega)) (f' := (upd tx tf (vp_nar .byte (((four >>> ((nI 24) &&& 31))).toInt8.toInt32)))) (by rw [nI_clamp (by omega)]) (ws' := [(t0, .inr (2, [.int (nI tf), .int tu, .int tl, .ref t1, .int te, .int tk, .int tr, .int tb])), (t1, .inl (T 3, 900, .inl (upd tx tf (vp_nar .byte (((four >>> ((nI 24) &&& 31))).toInt8.toInt32)))))]) rfl dX2_putBytes_29 (fun H locs V => ?_)
    refine lv_aload_n hx hb dX2_putBytes_30 rfl (lv_at hl 1 rfl) ?_
    refine lv_dup hx hb dX2_putBytes_31 rfl ?_
    refine g_get hC V (ci := 2) uwX2 0 rfl rfl 0 (by decide) w_129 rfl rfl dX2_putBytes_32 ?_
    refine lv_iconst (v := (nI 1)) hx hb dX2_putBytes_35 (by decide +kernel) ?_
    refine lv_iadd hx hb dX2_putBytes_36 ?_
    refine g_vi (y := (nI (tf + 1))) (nI_add _ _) ?_
    refine g_put hC V (ci := 2) uwX2 tyX2 tyX2_ok nmX2 0 rfl rfl 0 (by decide) w_129 rfl rfl rfl rfl (Nat.le_of_ble_eq_true rfl) (ws' := [(t0, .inr (2, [.int (nI (tf + 1)), .int tu, .int tl, .ref t1, .int te, .int tk, .int tr, .int tb])), (t1, .inl (T 3, 900, .inl (upd tx tf (vp_nar .byte (((four >>> ((nI 24) &&& 31))).toInt8.toInt32)))))]) rfl dX2_putBytes_37 (fun H locs V => ?_)
    refine lv_iinc (v := (nI 16)) (lv' := [(2, .int (nI 16)), (0, .ref t0), (1, .int four)]) hx hb dX2_putBytes_40 hl (k := 0) rfl (by decide +kernel) (by decide) rfl (fun ls hl => ?_)
    refine lv_goto (tgt := 3) hx hb dX2_putBytes_43 (by decide) ?_
    refine lv_iload_n hx hb dX2_putBytes_3 rfl (lv_at hl 0 rfl) ?_
    refine lv_if_lt (tgt := 46) hx hb dX2_putBytes_4 (by decide) (fun c => absurd (show (nI 16) < 0 from c) (by decide +kernel)) (fun _ => ?_)
    refine lv_aload_n hx hb dX2_putBytes_7 rfl (lv_at hl 1 rfl) ?_
    refine g_get hC V (ci := 2) uwX2 0 rfl rfl 0 (by decide) w_129 rfl rfl dX2_putBytes_8 ?_
    refine lv_sipush (v := (nI 900)) hx hb dX2_putBytes_11 (by decide +kernel) ?_
    refine lv_icmp_ge (tgt := 46) hx hb dX2_putBytes_14 (by decide) (fun c_2 => ?_) (fun c_2 => ?_)
    · skip
      have c_2 := b_le (by omega) (by omega) c_2
      exact (by omega : False).elim
    · skip
      have c_2 := b_nle (by omega) (by omega) c_2
      refine lv_aload_n hx hb dX2_putBytes_17 rfl (lv_at hl 1 rfl) ?_
      refine g_get hC V (ci := 2) uwX2 0 rfl rfl 3 (by decide) w_134 rfl rfl dX2_putBytes_18 ?_
      refine lv_aload_n hx hb dX2_putBytes_21 rfl (lv_at hl 1 rfl) ?_
      refine g_get hC V (ci := 2) uwX2 0 rfl rfl 0 (by decide) w_129 rfl rfl dX2_putBytes_22 ?_
      refine lv_iload_n hx hb dX2_putBytes_25 rfl (lv_at hl 2 rfl) ?_
      refine lv_iload_n hx hb dX2_putBytes_26 rfl (lv_at hl 0 rfl) ?_
      refine lv_ishr hx hb dX2_putBytes_27 ?_
      refine lv_i2b hx hb dX2_putBytes_28 rfl ?_
      refine g_bast hC V 1 rfl (vp_in_nI (by omega) (by omega)) (f' := (upd (upd tx tf (vp_nar .byte (((four >>> ((nI 24) &&& 31))).toInt8.toInt32))) (tf + 1) (vp_nar .byte (((four >>> ((nI 16) &&& 31))).toInt8.toInt32)))) (by rw [nI_clamp (by omega)]) (ws' := [(t0, .inr (2, [.int (nI (tf + 1)), .int tu, .int tl, .ref t1, .int te, .int tk, .int tr, .int tb])), (t1, .inl (T 3, 900, .inl (upd (upd tx tf (vp_nar .byte (((four >>> ((nI 24) &&& 31))).toInt8.toInt32))) (tf + 1) (vp_nar .byte (((four >>> ((nI 16) &&& 31))).toInt8.toInt32)))))]) rfl dX2_putBytes_29 (fun H locs V => ?_)
      refine lv_aload_n hx hb dX2_putBytes_30 rfl (lv_at hl 1 rfl) ?_
      refine lv_dup hx hb dX2_putBytes_31 rfl ?_
      refine g_get hC V (ci := 2) uwX2 0 rfl rfl 0 (by decide) w_129 rfl rfl dX2_putBytes_32 ?_
      refine lv_iconst (v := (nI 1)) hx hb dX2_putBytes_35 (by decide +kernel) ?_
      refine lv_iadd hx hb dX2_putBytes_36 ?_
      refine g_vi (y := (nI ((tf + 1) + 1))) (nI_add _ _) ?_
      refine g_put hC V (ci := 2) uwX2 tyX2 tyX2_ok nmX2 0 rfl rfl 0 (by decide) w_129 rfl rfl rfl rfl (Nat.le_of_ble_eq_true rfl) (ws' := [(t0, .inr (2, [.int (nI ((tf + 1) + 1)), .int tu, .int tl, .ref t1, .int te, .int tk, .int tr, .int tb])), (t1, .inl (T 3, 900, .inl (upd (upd tx tf (vp_nar .byte (((four >>> ((nI 24) &&& 31))).toInt8.toInt32))) (tf + 1) (vp_nar .byte (((four >>> ((nI 16) &&& 31))).toInt8.toInt32)))))]) rfl dX2_putBytes_37 (fun H locs V => ?_)
      refine lv_iinc (v := (nI 8)) (lv' := [(2, .int (nI 8)), (0, .ref t0), (1, .int four)]) hx hb dX2_putBytes_40 hl (k := 0) rfl (by decide +kernel) (by decide) rfl (fun ls hl => ?_)
      refine lv_goto (tgt := 3) hx hb dX2_putBytes_43 (by decide) ?_
      refine lv_iload_n hx hb dX2_putBytes_3 rfl (lv_at hl 0 rfl) ?_
      refine lv_if_lt (tgt := 46) hx hb dX2_putBytes_4 (by decide) (fun c => absurd (show (nI 8) < 0 from c) (by decide +kernel)) (fun _ => ?_)
      refine lv_aload_n hx hb dX2_putBytes_7 rfl (lv_at hl 1 rfl) ?_
      refine g_get hC V (ci := 2) uwX2 0 rfl rfl 0 (by decide) w_129 rfl rfl dX2_putBytes_8 ?_
      refine lv_sipush (v := (nI 900)) hx hb dX2_putBytes_11 (by decide +kernel) ?_
      refine lv_icmp_ge (tgt := 46) hx hb dX2_putBytes_14 (by decide) (fun c_3 => ?_) (fun c_3 => ?_)
      · skip
        have c_3 := b_le (by omega) (by omega) c_3
        exact (by omega : False).elim
      · skip
        have c_3 := b_nle (by omega) (by omega) c_3
        refine lv_aload_n hx hb dX2_putBytes_17 rfl (lv_at hl 1 rfl) ?_
        refine g_get hC V (ci := 2) uwX2 0 rfl rfl 3 (by decide) w_134 rfl rfl dX2_putBytes_18 ?_
        refine lv_aload_n hx hb dX2_putBytes_21 rfl (lv_at hl 1 rfl) ?_
        refine g_get hC V (ci := 2) uwX2 0 rfl rfl 0 (by decide) w_129 rfl rfl dX2_putBytes_22 ?_
        refine lv_iload_n hx hb dX2_putBytes_25 rfl (lv_at hl 2 rfl) ?_
        refine lv_iload_n hx hb dX2_putBytes_26 rfl (lv_at hl 0 rfl) ?_
        refine lv_ishr hx hb dX2_putBytes_27 ?_
        refine lv_i2b hx hb dX2_putBytes_28 rfl ?_
        refine g_bast hC V 1 rfl (vp_in_nI (by omega) (by omega)) (f' := (upd (upd (upd tx tf (vp_nar .byte (((four >>> ((nI 24) &&& 31))).toInt8.toInt32))) (tf + 1) (vp_nar .byte (((four >>> ((nI 16) &&& 31))).toInt8.toInt32))) ((tf + 1) + 1) (vp_nar .byte (((four >>> ((nI 8) &&& 31))).toInt8.toInt32)))) (by rw [nI_clamp (by omega)]) (ws' := [(t0, .inr (2, [.int (nI ((tf + 1) + 1)), .int tu, .int tl, .ref t1, .int te, .int tk, .int tr, .int tb])), (t1, .inl (T 3, 900, .inl (upd (upd (upd tx tf (vp_nar .byte (((four >>> ((nI 24) &&& 31))).toInt8.toInt32))) (tf + 1) (vp_nar .byte (((four >>> ((nI 16) &&& 31))).toInt8.toInt32))) ((tf + 1) + 1) (vp_nar .byte (((four >>> ((nI 8) &&& 31))).toInt8.toInt32)))))]) rfl dX2_putBytes_29 (fun H locs V => ?_)
        refine lv_aload_n hx hb dX2_putBytes_30 rfl (lv_at hl 1 rfl) ?_
        refine lv_dup hx hb dX2_putBytes_31 rfl ?_
        refine g_get hC V (ci := 2) uwX2 0 rfl rfl 0 (by decide) w_129 rfl rfl dX2_putBytes_32 ?_
        refine lv_iconst (v := (nI 1)) hx hb dX2_putBytes_35 (by decide +kernel) ?_
        refine lv_iadd hx hb dX2_putBytes_36 ?_
        refine g_vi (y := (nI (((tf + 1) + 1) + 1))) (nI_add _ _) ?_
        refine g_put hC V (ci := 2) uwX2 tyX2 tyX2_ok nmX2 0 rfl rfl 0 (by decide) w_129 rfl rfl rfl rfl (Nat.le_of_ble_eq_true rfl) (ws' := [(t0, .inr (2, [.int (nI (((tf + 1) + 1) + 1)), .int tu, .int tl, .ref t1, .int te, .int tk, .int tr, .int tb])), (t1, .inl (T 3, 900, .inl (upd (upd (upd tx tf (vp_nar .byte (((four >>> ((nI 24) &&& 31))).toInt8.toInt32))) (tf + 1) (vp_nar .byte (((four >>> ((nI 16) &&& 31))).toInt8.toInt32))) ((tf + 1) + 1) (vp_nar .byte (((four >>> ((nI 8) &&& 31))).toInt8.toInt32)))))]) rfl dX2_putBytes_37 (fun H locs V => ?_)
        refine lv_iinc (v := (nI 0)) (lv' := [(2, .int (nI 0)), (0, .ref t0), (1, .int four)]) hx hb dX2_putBytes_40 hl (k := 0) rfl (by decide +kernel) (by decide) rfl (fun ls hl => ?_)
        refine lv_goto (tgt := 3) hx hb dX2_putBytes_43 (by decide) ?_
        refine lv_iload_n hx hb dX2_putBytes_3 rfl (lv_at hl 0 rfl) ?_
        refine lv_if_lt (tgt := 46) hx hb dX2_putBytes_4 (by decide) (fun c => absurd (show (nI 0) < 0 from c) (by decide +kernel)) (fun _ => ?_)
        refine lv_aload_n hx hb dX2_putBytes_7 rfl (lv_at hl 1 rfl) ?_
        refine g_get hC V (ci := 2) uwX2 0 rfl rfl 0 (by decide) w_129 rfl rfl dX2_putBytes_8 ?_
        refine lv_sipush (v := (nI 900)) hx hb dX2_putBytes_11 (by decide +kernel) ?_
        refine lv_icmp_ge (tgt := 46) hx hb dX2_putBytes_14 (by decide) (fun c_4 => ?_) (fun c_4 => ?_)
        · skip
          have c_4 := b_le (by omega) (by omega) c_4
          exact (by omega : False).elim
        · skip
          have c_4 := b_nle (by omega) (by omega) c_4
          refine lv_aload_n hx hb dX2_putBytes_17 rfl (lv_at hl 1 rfl) ?_
          refine g_get hC V (ci := 2) uwX2 0 rfl rfl 3 (by decide) w_134 rfl rfl dX2_putBytes_18 ?_
          refine lv_aload_n hx hb dX2_putBytes_21 rfl (lv_at hl 1 rfl) ?_
          refine g_get hC V (ci := 2) uwX2 0 rfl rfl 0 (by decide) w_129 rfl rfl dX2_putBytes_22 ?_
          refine lv_iload_n hx hb dX2_putBytes_25 rfl (lv_at hl 2 rfl) ?_
          refine lv_iload_n hx hb dX2_putBytes_26 rfl (lv_at hl 0 rfl) ?_
          refine lv_ishr hx hb dX2_putBytes_27 ?_
          refine lv_i2b hx hb dX2_putBytes_28 rfl ?_
          refine g_bast hC V 1 rfl (vp_in_nI (by omega) (by omega)) (f' := (upd (upd (upd (upd tx tf (vp_nar .byte (((four >>> ((nI 24) &&& 31))).toInt8.toInt32))) (tf + 1) (vp_nar .byte (((four >>> ((nI 16) &&& 31))).toInt8.toInt32))) ((tf + 1) + 1) (vp_nar .byte (((four >>> ((nI 8) &&& 31))).toInt8.toInt32))) (((tf + 1) + 1) + 1) (vp_nar .byte (((four >>> ((nI 0) &&& 31))).toInt8.toInt32)))) (by rw [nI_clamp (by omega)]) (ws' := [(t0, .inr (2, [.int (nI (((tf + 1) + 1) + 1)), .int tu, .int tl, .ref t1, .int te, .int tk, .int tr, .int tb])), (t1, .inl (T 3, 900, .inl (upd (upd (upd (upd tx tf (vp_nar .byte (((four >>> ((nI 24) &&& 31))).toInt8.toInt32))) (tf + 1) (vp_nar .byte (((four >>> ((nI 16) &&& 31))).toInt8.toInt32))) ((tf + 1) + 1) (vp_nar .byte (((four >>> ((nI 8) &&& 31))).toInt8.toInt32))) (((tf + 1) + 1) + 1) (vp_nar .byte (((four >>> ((nI 0) &&& 31))).toInt8.toInt32)))))]) rfl dX2_putBytes_29 (fun H locs V => ?_)
          refine lv_aload_n hx hb dX2_putBytes_30 rfl (lv_at hl 1 rfl) ?_
          refine lv_dup hx hb dX2_putBytes_31 rfl ?_
          refine g_get hC V (ci := 2) uwX2 0 rfl rfl 0 (by decide) w_129 rfl rfl dX2_putBytes_32 ?_
          refine lv_iconst (v := (nI 1)) hx hb dX2_putBytes_35 (by decide +kernel) ?_
          refine lv_iadd hx hb dX2_putBytes_36 ?_
          refine g_vi (y := (nI ((((tf + 1) + 1) + 1) + 1))) (nI_add _ _) ?_
          refine g_put hC V (ci := 2) uwX2 tyX2 tyX2_ok nmX2 0 rfl rfl 0 (by decide) w_129 rfl rfl rfl rfl (Nat.le_of_ble_eq_true rfl) (ws' := [(t0, .inr (2, [.int (nI ((((tf + 1) + 1) + 1) + 1)), .int tu, .int tl, .ref t1, .int te, .int tk, .int tr, .int tb])), (t1, .inl (T 3, 900, .inl (upd (upd (upd (upd tx tf (vp_nar .byte (((four >>> ((nI 24) &&& 31))).toInt8.toInt32))) (tf + 1) (vp_nar .byte (((four >>> ((nI 16) &&& 31))).toInt8.toInt32))) ((tf + 1) + 1) (vp_nar .byte (((four >>> ((nI 8) &&& 31))).toInt8.toInt32))) (((tf + 1) + 1) + 1) (vp_nar .byte (((four >>> ((nI 0) &&& 31))).toInt8.toInt32)))))]) rfl dX2_putBytes_37 (fun H locs V => ?_)
          refine lv_iinc (v := (-8)) (lv' := [(2, .int (-8)), (0, .ref t0), (1, .int four)]) hx hb dX2_putBytes_40 hl (k := 0) rfl (by decide +kernel) (by decide) rfl (fun ls hl => ?_)
          refine lv_goto (tgt := 3) hx hb dX2_putBytes_43 (by decide) ?_
          refine lv_iload_n hx hb dX2_putBytes_3 rfl (lv_at hl 0 rfl) ?_
          refine lv_if_lt (tgt := 46) hx hb dX2_putBytes_4 (by decide) (fun _ => ?_) (fun c => absurd (show (-8 : Int32) < 0 by decide +kernel) c)
          exact g_vret (Qr := (q_f_putBytes T t0 four tf tu tl t1 te tk tr tb tx)) hC V ⟨(Nat.le_of_ble_eq_true rfl), (Nat.le_of_ble_eq_true rfl)⟩ ⟨((((tf + 1) + 1) + 1) + 1), (upd (upd (upd (upd tx tf (vp_nar .byte (((four >>> ((nI 24) &&& 31))).toInt8.toInt32))) (tf + 1) (vp_nar .byte (((four >>> ((nI 16) &&& 31))).toInt8.toInt32))) ((tf + 1) + 1) (vp_nar .byte (((four >>> ((nI 8) &&& 31))).toInt8.toInt32))) (((tf + 1) + 1) + 1) (vp_nar .byte (((four >>> ((nI 0) &&& 31))).toInt8.toInt32))), rfl, rfl, (by omega), fd4_mk⟩ dX2_putBytes_46

def q_x_feed_f (T : Nat → ClassId) (o : Nat) (va : Int32) (vb : Int32) (vc : Int32) (vd : Int32) (ve : Int32) (n0 : Nat) (s0 : Nat) (im : Nat) (iz : Nat) (rw : Nat) (t0 : Nat) (u0 : Nat) (h0 : Nat) (y0 : Nat) (sv : Value) (tf : Nat) (tu : Int32) (tl : Int32) (t1 : Nat) (te : Int32) (tk : Int32) (tr : Int32) (tb : Int32) (tx : Nat → Int32) : Option Value → va_W → Prop := fun rr ww => (∃ (z : Int32) (f2 : Nat) (g : Nat → Int32), rr = some (.int z) ∧ ww = [(o, .inr (7, [.ref n0, .ref s0, .ref im, .ref iz, .ref rw, .ref t0, .ref u0, .ref h0, .ref y0, sv])), (t0, .inr (2, [.int (nI f2), .int tu, .int tl, .ref t1, .int te, .int tk, .int tr, .int tb])), (t1, .inl (T 3, 900, .inl g))] ∧ z = feedA tf ∧ f2 = feedN tf ∧ (880 < tf → g = tx) ∧ (¬ 880 < tf → fdX tf tx g va vb vc vd ve))
set_option maxHeartbeats 4000000 in
set_option maxRecDepth 100000 in
theorem x_feed_f (l : Launch) (D : va_G) (T : Nat → ClassId) (o : Nat) (va : Int32) (vb : Int32) (vc : Int32) (vd : Int32) (ve : Int32) (n0 : Nat) (s0 : Nat) (im : Nat) (iz : Nat) (rw : Nat) (t0 : Nat) (u0 : Nat) (h0 : Nat) (y0 : Nat) (sv : Value) (tf : Nat) (tu : Int32) (tl : Int32) (t1 : Nat) (te : Int32) (tk : Int32) (tr : Int32) (tb : Int32) (tx : Nat → Int32) (h_f : tf ≤ 900) : Ct l yX7_feed cX7_feed 6 (some .int) 1 0 0 D T [.ref o, .int va, .int vb, .int vc, .int vd, .int ve] [(o, .inr (7, [.ref n0, .ref s0, .ref im, .ref iz, .ref rw, .ref t0, .ref u0, .ref h0, .ref y0, sv])), (t0, .inr (2, [.int (nI tf), .int tu, .int tl, .ref t1, .int te, .int tk, .int tr, .int tb])), (t1, .inl (T 3, 900, .inl tx))] (q_x_feed_f T o va vb vc vd ve n0 s0 im iz rw t0 u0 h0 y0 sv tf tu tl t1 te tk tr tb tx) := by
  refine Ct.of (cc := cX7_feed) (maxL := 6) (ret := (some .int)) (by decide) (Nat.le_of_ble_eq_true rfl) ?_
  intro p e s m args below meth c A ls hC hnm V hl
  obtain ⟨hx, hb, hr, hml, hown, hts, hlocks⟩ := id hC
  generalize hH : s.heap = H at V ⊢
  clear hH
  have hl : lv_has ls 6 [(0, .ref o), (1, .int va), (2, .int vb), (3, .int vc), (4, .int vd), (5, .int ve)] := hl
  generalize hlo : ([] : List Loc) = locs at V ⊢
  clear hlo
  refine lv_aload_n hx hb dX7_feed_0 rfl (lv_at hl 0 rfl) ?_
  refine g_get hC V (ci := 7) uwX7 0 rfl rfl 5 (by decide) w_254 rfl rfl dX7_feed_1 ?_
  refine g_get hC V (ci := 2) uwX2 1 rfl rfl 0 (by decide) w_128 rfl rfl dX7_feed_4 ?_
  refine lv_bipush (v := (nI 20)) hx hb dX7_feed_7 (by decide +kernel) ?_
  refine lv_iadd hx hb dX7_feed_9 ?_
  refine g_vi (y := (nI (tf + 20))) (nI_add _ _) ?_
  refine lv_sipush (v := (nI 900)) hx hb dX7_feed_10 (by decide +kernel) ?_
  refine lv_icmp_le (tgt := 19) hx hb dX7_feed_13 (by decide) (fun c_1 => ?_) (fun c_1 => ?_)
  · skip
    have c_1 := b_le (by omega) (by omega) c_1
    refine lv_aload_n hx hb dX7_feed_19 rfl (lv_at hl 0 rfl) ?_
    refine g_get hC V (ci := 7) uwX7 0 rfl rfl 5 (by decide) w_254 rfl rfl dX7_feed_20 ?_
    refine lv_iload_n hx hb dX7_feed_23 rfl (lv_at hl 1 rfl) ?_
    refine g_callVU (nA := 1) hC V hl.1 (f_putBytes l D T t0 va tf tu tl t1 te tk tr tb tx (by first | assumption | omega)) w_284 w_285 w_286 w_4 w_287 (by decide +kernel) rfl ⟨(Nat.le_of_ble_eq_true rfl), (Nat.le_of_ble_eq_true rfl)⟩ 1 (ci := 2) rfl rfl [1, 2] rfl rfl (Nat.le_of_ble_eq_true rfl) dX7_feed_24 ⟨(Nat.le_of_ble_eq_true rfl), (Nat.le_of_ble_eq_true rfl)⟩ rfl (fun r w1 H locs hQ V => ?_)
    obtain ⟨f2_2, g_3, rfl, rfl, f_4, f_5⟩ := hQ
    have V : gW D T A s [(o, .inr (7, [.ref n0, .ref s0, .ref im, .ref iz, .ref rw, .ref t0, .ref u0, .ref h0, .ref y0, sv])), (t0, .inr (2, [.int (nI f2_2), .int tu, .int tl, .ref t1, .int te, .int tk, .int tr, .int tb])), (t1, .inl (T 3, 900, .inl g_3))] H locs := V _ [1, 0] rfl rfl rfl (by decide +kernel) rfl
    show W p l e _ s m args below meth c H locs _ _ _ (F0 m 27 ls [])
    refine lv_aload_n hx hb dX7_feed_27 rfl (lv_at hl 0 rfl) ?_
    refine g_get hC V (ci := 7) uwX7 0 rfl rfl 5 (by decide) w_254 rfl rfl dX7_feed_28 ?_
    refine lv_iload_n hx hb dX7_feed_31 rfl (lv_at hl 2 rfl) ?_
    refine g_callVU (nA := 1) hC V hl.1 (f_putBytes l D T t0 vb f2_2 tu tl t1 te tk tr tb g_3 (by first | assumption | omega)) w_284 w_285 w_286 w_4 w_287 (by decide +kernel) rfl ⟨(Nat.le_of_ble_eq_true rfl), (Nat.le_of_ble_eq_true rfl)⟩ 1 (ci := 2) rfl rfl [1, 2] rfl rfl (Nat.le_of_ble_eq_true rfl) dX7_feed_32 ⟨(Nat.le_of_ble_eq_true rfl), (Nat.le_of_ble_eq_true rfl)⟩ rfl (fun r w1 H locs hQ V => ?_)
    obtain ⟨f2_6, g_7, rfl, rfl, f_8, f_9⟩ := hQ
    have V : gW D T A s [(o, .inr (7, [.ref n0, .ref s0, .ref im, .ref iz, .ref rw, .ref t0, .ref u0, .ref h0, .ref y0, sv])), (t0, .inr (2, [.int (nI f2_6), .int tu, .int tl, .ref t1, .int te, .int tk, .int tr, .int tb])), (t1, .inl (T 3, 900, .inl g_7))] H locs := V _ [1, 0] rfl rfl rfl (by decide +kernel) rfl
    show W p l e _ s m args below meth c H locs _ _ _ (F0 m 35 ls [])
    refine lv_aload_n hx hb dX7_feed_35 rfl (lv_at hl 0 rfl) ?_
    refine g_get hC V (ci := 7) uwX7 0 rfl rfl 5 (by decide) w_254 rfl rfl dX7_feed_36 ?_
    refine lv_iload_n hx hb dX7_feed_39 rfl (lv_at hl 3 rfl) ?_
    refine g_callVU (nA := 1) hC V hl.1 (f_putBytes l D T t0 vc f2_6 tu tl t1 te tk tr tb g_7 (by first | assumption | omega)) w_284 w_285 w_286 w_4 w_287 (by decide +kernel) rfl ⟨(Nat.le_of_ble_eq_true rfl), (Nat.le_of_ble_eq_true rfl)⟩ 1 (ci := 2) rfl rfl [1, 2] rfl rfl (Nat.le_of_ble_eq_true rfl) dX7_feed_40 ⟨(Nat.le_of_ble_eq_true rfl), (Nat.le_of_ble_eq_true rfl)⟩ rfl (fun r w1 H locs hQ V => ?_)
    obtain ⟨f2_10, g_11, rfl, rfl, f_12, f_13⟩ := hQ
    have V : gW D T A s [(o, .inr (7, [.ref n0, .ref s0, .ref im, .ref iz, .ref rw, .ref t0, .ref u0, .ref h0, .ref y0, sv])), (t0, .inr (2, [.int (nI f2_10), .int tu, .int tl, .ref t1, .int te, .int tk, .int tr, .int tb])), (t1, .inl (T 3, 900, .inl g_11))] H locs := V _ [1, 0] rfl rfl rfl (by decide +kernel) rfl
    show W p l e _ s m args below meth c H locs _ _ _ (F0 m 43 ls [])
    refine lv_aload_n hx hb dX7_feed_43 rfl (lv_at hl 0 rfl) ?_
    refine g_get hC V (ci := 7) uwX7 0 rfl rfl 5 (by decide) w_254 rfl rfl dX7_feed_44 ?_
    refine lv_iload hx hb dX7_feed_47 (lv_at hl 4 rfl) ?_
    refine g_callVU (nA := 1) hC V hl.1 (f_putBytes l D T t0 vd f2_10 tu tl t1 te tk tr tb g_11 (by first | assumption | omega)) w_284 w_285 w_286 w_4 w_287 (by decide +kernel) rfl ⟨(Nat.le_of_ble_eq_true rfl), (Nat.le_of_ble_eq_true rfl)⟩ 1 (ci := 2) rfl rfl [1, 2] rfl rfl (Nat.le_of_ble_eq_true rfl) dX7_feed_49 ⟨(Nat.le_of_ble_eq_true rfl), (Nat.le_of_ble_eq_true rfl)⟩ rfl (fun r w1 H locs hQ V => ?_)
    obtain ⟨f2_14, g_15, rfl, rfl, f_16, f_17⟩ := hQ
    have V : gW D T A s [(o, .inr (7, [.ref n0, .ref s0, .ref im, .ref iz, .ref rw, .ref t0, .ref u0, .ref h0, .ref y0, sv])), (t0, .inr (2, [.int (nI f2_14), .int tu, .int tl, .ref t1, .int te, .int tk, .int tr, .int tb])), (t1, .inl (T 3, 900, .inl g_15))] H locs := V _ [1, 0] rfl rfl rfl (by decide +kernel) rfl
    show W p l e _ s m args below meth c H locs _ _ _ (F0 m 52 ls [])
    refine lv_aload_n hx hb dX7_feed_52 rfl (lv_at hl 0 rfl) ?_
    refine g_get hC V (ci := 7) uwX7 0 rfl rfl 5 (by decide) w_254 rfl rfl dX7_feed_53 ?_
    refine lv_iload hx hb dX7_feed_56 (lv_at hl 5 rfl) ?_
    refine g_callVU (nA := 1) hC V hl.1 (f_putBytes l D T t0 ve f2_14 tu tl t1 te tk tr tb g_15 (by first | assumption | omega)) w_284 w_285 w_286 w_4 w_287 (by decide +kernel) rfl ⟨(Nat.le_of_ble_eq_true rfl), (Nat.le_of_ble_eq_true rfl)⟩ 1 (ci := 2) rfl rfl [1, 2] rfl rfl (Nat.le_of_ble_eq_true rfl) dX7_feed_58 ⟨(Nat.le_of_ble_eq_true rfl), (Nat.le_of_ble_eq_true rfl)⟩ rfl (fun r w1 H locs hQ V => ?_)
    obtain ⟨f2_18, g_19, rfl, rfl, f_20, f_21⟩ := hQ
    have V : gW D T A s [(o, .inr (7, [.ref n0, .ref s0, .ref im, .ref iz, .ref rw, .ref t0, .ref u0, .ref h0, .ref y0, sv])), (t0, .inr (2, [.int (nI f2_18), .int tu, .int tl, .ref t1, .int te, .int tk, .int tr, .int tb])), (t1, .inl (T 3, 900, .inl g_19))] H locs := V _ [1, 0] rfl rfl rfl (by decide +kernel) rfl
    show W p l e _ s m args below meth c H locs _ _ _ (F0 m 61 ls [])
    refine lv_aload_n hx hb dX7_feed_61 rfl (lv_at hl 0 rfl) ?_
    refine g_get hC V (ci := 7) uwX7 0 rfl rfl 5 (by decide) w_254 rfl rfl dX7_feed_62 ?_
    refine g_get hC V (ci := 2) uwX2 1 rfl rfl 0 (by decide) w_128 rfl rfl dX7_feed_65 ?_
    exact g_iret (Qr := (q_x_feed_f T o va vb vc vd ve n0 s0 im iz rw t0 u0 h0 y0 sv tf tu tl t1 te tk tr tb tx)) hC V ⟨(Nat.le_of_ble_eq_true rfl), (Nat.le_of_ble_eq_true rfl)⟩ ⟨(nI f2_18), f2_18, g_19, rfl, rfl, (fd_2 (by omega) (by omega)), (fd_4 (by omega) (by omega)), (fun h => absurd h (by omega)), (fun _ => fd20 f_5 f_4 f_9 f_8 f_13 f_12 f_17 f_16 f_21)⟩ dX7_feed_68
  · skip
    have c_1 := b_nle (by omega) (by omega) c_1
    refine lv_bipush (v := (-5)) hx hb dX7_feed_16 (by decide +kernel) ?_
    exact g_iret (Qr := (q_x_feed_f T o va vb vc vd ve n0 s0 im iz rw t0 u0 h0 y0 sv tf tu tl t1 te tk tr tb tx)) hC V ⟨(Nat.le_of_ble_eq_true rfl), (Nat.le_of_ble_eq_true rfl)⟩ ⟨(-5), tf, tx, rfl, rfl, (fd_1 (by omega)), (fd_3 (by omega)), (fun _ => rfl), (fun h => absurd (by omega) h)⟩ dX7_feed_18

def q_m_feed_f (T : Nat → ClassId) (o : Nat) (va : Int32) (vb : Int32) (vc : Int32) (vd : Int32) (ve : Int32) (w0 : Int32) (g1 : Nat) (g2 : Nat) (g3 : Nat) (g4 : Nat) (tp : Nat) (w6 : Int32) (w7 : Int32) (w8 : Int32) (w9 : Int32) (w10 : Int32) (w11 : Int32) (w12 : Int32) (w13 : Int32) (w14 : Int32) (g15 : Nat) (w16 : Int32) (g17 : Nat) (w18 : Int32) (w19 : Int32) (g20 : Nat) (w21 : Int32) (g22 : Nat) (g23 : Nat) (g24 : Nat) (w25 : Int32) (w26 : Int32) (w27 : Int32) (g28 : Nat) (g29 : Nat) (w30 : Int32) (g31 : Nat) (g32 : Nat) (g33 : Nat) (ft : Nat → Int32) : Option Value → va_W → Prop := fun rr ww => (∃ (z : Int32) (t2 : Nat) (gt : Nat → Int32), rr = some (.int z) ∧ ww = [(o, .inr (8, [.int (nI 0), .ref g1, .ref g2, .ref g3, .ref g4, .int (nI t2), .int w6, .int w7, .int w8, .int w9, .int w10, .int w11, .int w12, .int w13, .int w14, .ref g15, .int w16, .ref g17, .int w18, .int w19, .ref g20, .int w21, .ref g22, .ref g23, .ref g24, .int w25, .int w26, .int w27, .ref g28, .ref g29, .int w30, .ref g31, .ref g32, .ref g33])), (g3, .inl (T 0, 900, .inl gt))] ∧ z = feedA tp ∧ t2 = feedN tp ∧ (880 < tp → gt = ft) ∧ (¬ 880 < tp → fdM tp ft gt va vb vc vd ve))
set_option maxHeartbeats 4000000 in
set_option maxRecDepth 100000 in
theorem m_feed_f (l : Launch) (D : va_G) (T : Nat → ClassId) (o : Nat) (va : Int32) (vb : Int32) (vc : Int32) (vd : Int32) (ve : Int32) (w0 : Int32) (g1 : Nat) (g2 : Nat) (g3 : Nat) (g4 : Nat) (tp : Nat) (w6 : Int32) (w7 : Int32) (w8 : Int32) (w9 : Int32) (w10 : Int32) (w11 : Int32) (w12 : Int32) (w13 : Int32) (w14 : Int32) (g15 : Nat) (w16 : Int32) (g17 : Nat) (w18 : Int32) (w19 : Int32) (g20 : Nat) (w21 : Int32) (g22 : Nat) (g23 : Nat) (g24 : Nat) (w25 : Int32) (w26 : Int32) (w27 : Int32) (g28 : Nat) (g29 : Nat) (w30 : Int32) (g31 : Nat) (g32 : Nat) (g33 : Nat) (ft : Nat → Int32) (h_t : tp ≤ 900) : Ct l yX8_feed cX8_feed 8 (some .int) 0 0 0 D T [.ref o, .int va, .int vb, .int vc, .int vd, .int ve] [(o, .inr (8, [.int w0, .ref g1, .ref g2, .ref g3, .ref g4, .int (nI tp), .int w6, .int w7, .int w8, .int w9, .int w10, .int w11, .int w12, .int w13, .int w14, .ref g15, .int w16, .ref g17, .int w18, .int w19, .ref g20, .int w21, .ref g22, .ref g23, .ref g24, .int w25, .int w26, .int w27, .ref g28, .ref g29, .int w30, .ref g31, .ref g32, .ref g33])), (g3, .inl (T 0, 900, .inl ft))] (q_m_feed_f T o va vb vc vd ve w0 g1 g2 g3 g4 tp w6 w7 w8 w9 w10 w11 w12 w13 w14 g15 w16 g17 w18 w19 g20 w21 g22 g23 g24 w25 w26 w27 g28 g29 w30 g31 g32 g33 ft) := by
  refine Ct.of (cc := cX8_feed) (maxL := 8) (ret := (some .int)) (by decide) (Nat.le_of_ble_eq_true rfl) ?_
  intro p e s m args below meth c A ls hC hnm V hl
  obtain ⟨hx, hb, hr, hml, hown, hts, hlocks⟩ := id hC
  generalize hH : s.heap = H at V ⊢
  clear hH
  have hl : lv_has ls 8 [(0, .ref o), (1, .int va), (2, .int vb), (3, .int vc), (4, .int vd), (5, .int ve)] := hl
  generalize hlo : ([] : List Loc) = locs at V ⊢
  clear hlo
  refine lv_aload_n hx hb dX8_feed_0 rfl (lv_at hl 0 rfl) ?_
  refine lv_iconst (v := (nI 0)) hx hb dX8_feed_1 (by decide +kernel) ?_
  refine g_put hC V (ci := 8) uwX8 tyX8 tyX8_ok nmX8 0 rfl rfl 0 (by decide) w_912 rfl rfl rfl rfl (Nat.le_of_ble_eq_true rfl) (ws' := [(o, .inr (8, [.int (nI 0), .ref g1, .ref g2, .ref g3, .ref g4, .int (nI tp), .int w6, .int w7, .int w8, .int w9, .int w10, .int w11, .int w12, .int w13, .int w14, .ref g15, .int w16, .ref g17, .int w18, .int w19, .ref g20, .int w21, .ref g22, .ref g23, .ref g24, .int w25, .int w26, .int w27, .ref g28, .ref g29, .int w30, .ref g31, .ref g32, .ref g33])), (g3, .inl (T 0, 900, .inl ft))]) rfl dX8_feed_2 (fun H locs V => ?_)
  refine lv_aload_n hx hb dX8_feed_5 rfl (lv_at hl 0 rfl) ?_
  refine g_get hC V (ci := 8) uwX8 0 rfl rfl 5 (by decide) w_917 rfl rfl dX8_feed_6 ?_
  refine lv_bipush (v := (nI 20)) hx hb dX8_feed_9 (by decide +kernel) ?_
  refine lv_iadd hx hb dX8_feed_11 ?_
  refine g_vi (y := (nI (tp + 20))) (nI_add _ _) ?_
  refine lv_sipush (v := (nI 900)) hx hb dX8_feed_12 (by decide +kernel) ?_
  refine lv_icmp_le (tgt := 21) hx hb dX8_feed_15 (by decide) (fun c_1 => ?_) (fun c_1 => ?_)
  · skip
    have c_1 := b_le (by omega) (by omega) c_1
    refine lv_iconst (v := (nI 0)) hx hb dX8_feed_21 (by decide +kernel) ?_
    refine lv_istore (lv' := [(6, .int (nI 0)), (0, .ref o), (1, .int va), (2, .int vb), (3, .int vc), (4, .int vd), (5, .int ve)]) hx hb dX8_feed_22 hl (by decide) rfl (fun ls hl => ?_)
    have L_2 : ∀ (fu : Nat) (k : Nat) (tq : Nat) (gq : Nat → Int32), k ≤ 20 → tq = tp + k → (∀ i, i < tp → gq i = ft i) → (∀ j, j < k → gq (tp + j) = byF va vb vc vd ve j) → 20 - k < fu → ∀ (H : Heap) (locs : List Loc) (ls : Array Slot), gW D T A s [(o, .inr (8, [.int (nI 0), .ref g1, .ref g2, .ref g3, .ref g4, .int (nI tq), .int w6, .int w7, .int w8, .int w9, .int w10, .int w11, .int w12, .int w13, .int w14, .ref g15, .int w16, .ref g17, .int w18, .int w19, .ref g20, .int w21, .ref g22, .ref g23, .ref g24, .int w25, .int w26, .int w27, .ref g28, .ref g29, .int w30, .ref g31, .ref g32, .ref g33])), (g3, .inl (T 0, 900, .inl gq))] H locs → lv_has ls 8 [(6, .int (nI k)), (0, .ref o), (1, .int va), (2, .int vb), (3, .int vc), (4, .int vd), (5, .int ve)] → W p l e (rmD 0 0 0) s m args below meth c H locs 0 0 (MQ below (gQ D A (q_m_feed_f T o va vb vc vd ve w0 g1 g2 g3 g4 tp w6 w7 w8 w9 w10 w11 w12 w13 w14 g15 w16 g17 w18 w19 g20 w21 g22 g23 g24 w25 w26 w27 g28 g29 w30 g31 g32 g33 ft)) args s 0 0 A) (F0 m 24 ls []) := by
      intro fu_24
      induction fu_24 with
      | zero => intro k tq gq hk htq hg1 hg2 hmu; exact absurd hmu (Nat.not_lt_zero _)
      | succ fu_24 ih_24 =>
        intro k tq gq hk htq hg1 hg2 hmu_24 H locs ls V hl
        refine lv_iload hx hb dX8_feed_24 (lv_at hl 0 rfl) ?_
        refine lv_bipush (v := (nI 20)) hx hb dX8_feed_26 (by decide +kernel) ?_
        refine lv_icmp_ge (tgt := 121) hx hb dX8_feed_28 (by decide) (fun c_3 => ?_) (fun c_3 => ?_)
        · skip
          have c_3 := b_le (by omega) (by omega) c_3
          refine lv_aload_n hx hb dX8_feed_121 rfl (lv_at hl 1 rfl) ?_
          refine g_get hC V (ci := 8) uwX8 0 rfl rfl 5 (by decide) w_917 rfl rfl dX8_feed_122 ?_
          exact g_iret (Qr := (q_m_feed_f T o va vb vc vd ve w0 g1 g2 g3 g4 tp w6 w7 w8 w9 w10 w11 w12 w13 w14 g15 w16 g17 w18 w19 g20 w21 g22 g23 g24 w25 w26 w27 g28 g29 w30 g31 g32 g33 ft)) hC V ⟨(Nat.le_of_ble_eq_true rfl), (Nat.le_of_ble_eq_true rfl)⟩ ⟨(nI tq), tq, gq, rfl, rfl, (fd_2 (by omega) (by omega)), (fd_4 (by omega) (by omega)), (fun h => absurd h (by omega)), (fun _ => ⟨hg1, fun j hj => hg2 j (by omega)⟩)⟩ dX8_feed_125
        · skip
          have c_3 := b_nle (by omega) (by omega) c_3
          refine lv_iload hx hb dX8_feed_31 (lv_at hl 0 rfl) ?_
          refine lv_iconst (v := (nI 4)) hx hb dX8_feed_33 (by decide +kernel) ?_
          refine lv_icmp_ge (tgt := 41) hx hb dX8_feed_34 (by decide) (fun c_4 => ?_) (fun c_4 => ?_)
          · skip
            have c_4 := b_le (by omega) (by omega) c_4
            refine lv_iload hx hb dX8_feed_41 (lv_at hl 0 rfl) ?_
            refine lv_bipush (v := (nI 8)) hx hb dX8_feed_43 (by decide +kernel) ?_
            refine lv_icmp_ge (tgt := 52) hx hb dX8_feed_45 (by decide) (fun c_5 => ?_) (fun c_5 => ?_)
            · skip
              have c_5 := b_le (by omega) (by omega) c_5
              refine lv_iload hx hb dX8_feed_52 (lv_at hl 0 rfl) ?_
              refine lv_bipush (v := (nI 12)) hx hb dX8_feed_54 (by decide +kernel) ?_
              refine lv_icmp_ge (tgt := 63) hx hb dX8_feed_56 (by decide) (fun c_6 => ?_) (fun c_6 => ?_)
              · skip
                have c_6 := b_le (by omega) (by omega) c_6
                refine lv_iload hx hb dX8_feed_63 (lv_at hl 0 rfl) ?_
                refine lv_bipush (v := (nI 16)) hx hb dX8_feed_65 (by decide +kernel) ?_
                refine lv_icmp_ge (tgt := 75) hx hb dX8_feed_67 (by decide) (fun c_7 => ?_) (fun c_7 => ?_)
                · skip
                  have c_7 := b_le (by omega) (by omega) c_7
                  refine lv_iload hx hb dX8_feed_75 (lv_at hl 6 rfl) ?_
                  refine lv_istore (lv' := [(7, .int ve), (6, .int (nI k)), (0, .ref o), (1, .int va), (2, .int vb), (3, .int vc), (4, .int vd), (5, .int ve)]) hx hb dX8_feed_77 hl (by decide) rfl (fun ls hl => ?_)
                  refine lv_aload_n hx hb dX8_feed_79 rfl (lv_at hl 2 rfl) ?_
                  refine g_get hC V (ci := 8) uwX8 0 rfl rfl 3 (by decide) w_915 rfl rfl dX8_feed_80 ?_
                  refine lv_aload_n hx hb dX8_feed_83 rfl (lv_at hl 2 rfl) ?_
                  refine g_get hC V (ci := 8) uwX8 0 rfl rfl 5 (by decide) w_917 rfl rfl dX8_feed_84 ?_
                  refine lv_iload hx hb dX8_feed_87 (lv_at hl 0 rfl) ?_
                  refine lv_bipush (v := (nI 24)) hx hb dX8_feed_89 (by decide +kernel) ?_
                  refine lv_bipush (v := (nI 8)) hx hb dX8_feed_91 (by decide +kernel) ?_
                  refine lv_iload hx hb dX8_feed_93 (lv_at hl 1 rfl) ?_
                  refine lv_iconst (v := (nI 4)) hx hb dX8_feed_95 (by decide +kernel) ?_
                  refine lv_irem hx hb dX8_feed_96 (by decide +kernel) ?_
                  refine g_vi (y := (nI (k % 4))) (nI_rem (by omega) (by omega)) ?_
                  refine lv_imul hx hb dX8_feed_97 ?_
                  refine g_vi (y := (nI (8 * (k % 4)))) (pk_mul _ _) ?_
                  refine lv_isub hx hb dX8_feed_98 ?_
                  refine g_vi (y := (nI (24 - (8 * (k % 4))))) (nI_sub (by omega)) ?_
                  refine lv_ishr hx hb dX8_feed_99 ?_
                  refine lv_sipush (v := (nI 255)) hx hb dX8_feed_100 (by decide +kernel) ?_
                  refine lv_iand hx hb dX8_feed_103 ?_
                  refine g_iast hC V 1 rfl (vp_in_nI (by omega) (by omega)) (f' := (upd gq tq ((ve >>> ((nI (24 - (8 * (k % 4)))) &&& 31)) &&& (nI 255)))) (by rw [nI_clamp (by omega)]) (ws' := [(o, .inr (8, [.int (nI 0), .ref g1, .ref g2, .ref g3, .ref g4, .int (nI tq), .int w6, .int w7, .int w8, .int w9, .int w10, .int w11, .int w12, .int w13, .int w14, .ref g15, .int w16, .ref g17, .int w18, .int w19, .ref g20, .int w21, .ref g22, .ref g23, .ref g24, .int w25, .int w26, .int w27, .ref g28, .ref g29, .int w30, .ref g31, .ref g32, .ref g33])), (g3, .inl (T 0, 900, .inl (upd gq tq ((ve >>> ((nI (24 - (8 * (k % 4)))) &&& 31)) &&& (nI 255)))))]) rfl dX8_feed_104 (fun H locs V => ?_)
                  refine lv_aload_n hx hb dX8_feed_105 rfl (lv_at hl 2 rfl) ?_
                  refine lv_dup hx hb dX8_feed_106 rfl ?_
                  refine g_get hC V (ci := 8) uwX8 0 rfl rfl 5 (by decide) w_917 rfl rfl dX8_feed_107 ?_
                  refine lv_iconst (v := (nI 1)) hx hb dX8_feed_110 (by decide +kernel) ?_
                  refine lv_iadd hx hb dX8_feed_111 ?_
                  refine g_vi (y := (nI (tq + 1))) (nI_add _ _) ?_
                  refine g_put hC V (ci := 8) uwX8 tyX8 tyX8_ok nmX8 0 rfl rfl 5 (by decide) w_917 rfl rfl rfl rfl (Nat.le_of_ble_eq_true rfl) (ws' := [(o, .inr (8, [.int (nI 0), .ref g1, .ref g2, .ref g3, .ref g4, .int (nI (tq + 1)), .int w6, .int w7, .int w8, .int w9, .int w10, .int w11, .int w12, .int w13, .int w14, .ref g15, .int w16, .ref g17, .int w18, .int w19, .ref g20, .int w21, .ref g22, .ref g23, .ref g24, .int w25, .int w26, .int w27, .ref g28, .ref g29, .int w30, .ref g31, .ref g32, .ref g33])), (g3, .inl (T 0, 900, .inl (upd gq tq ((ve >>> ((nI (24 - (8 * (k % 4)))) &&& 31)) &&& (nI 255)))))]) rfl dX8_feed_112 (fun H locs V => ?_)
                  refine lv_iinc (v := (nI (k + 1))) (lv' := [(6, .int (nI (k + 1))), (7, .int ve), (0, .ref o), (1, .int va), (2, .int vb), (3, .int vc), (4, .int vd), (5, .int ve)]) hx hb dX8_feed_115 hl (k := 1) rfl (nI_1 _) (by decide) rfl (fun ls hl => ?_)
                  refine lv_goto (tgt := 24) hx hb dX8_feed_118 (by decide) ?_
                  exact ih_24 (k + 1) (tq + 1) (upd gq tq ((ve >>> ((nI (24 - (8 * (k % 4)))) &&& 31)) &&& (nI 255))) (by omega) (by omega) (fun i hi => (up_other (by omega)).trans (hg1 i hi)) (by_one htq hg2 (by unfold byF byV shB; first | rw [if_pos (by omega)] | rw [if_neg (by omega), if_pos (by omega)] | rw [if_neg (by omega), if_neg (by omega), if_pos (by omega)] | rw [if_neg (by omega), if_neg (by omega), if_neg (by omega), if_pos (by omega)] | rw [if_neg (by omega), if_neg (by omega), if_neg (by omega), if_neg (by omega)])) (by omega) _ _ _ V (lv_sub hl [0, 2, 3, 4, 5, 6, 7] rfl)
                · skip
                  have c_7 := b_nle (by omega) (by omega) c_7
                  refine lv_iload hx hb dX8_feed_70 (lv_at hl 5 rfl) ?_
                  refine lv_goto (tgt := 77) hx hb dX8_feed_72 (by decide) ?_
                  refine lv_istore (lv' := [(7, .int vd), (6, .int (nI k)), (0, .ref o), (1, .int va), (2, .int vb), (3, .int vc), (4, .int vd), (5, .int ve)]) hx hb dX8_feed_77 hl (by decide) rfl (fun ls hl => ?_)
                  refine lv_aload_n hx hb dX8_feed_79 rfl (lv_at hl 2 rfl) ?_
                  refine g_get hC V (ci := 8) uwX8 0 rfl rfl 3 (by decide) w_915 rfl rfl dX8_feed_80 ?_
                  refine lv_aload_n hx hb dX8_feed_83 rfl (lv_at hl 2 rfl) ?_
                  refine g_get hC V (ci := 8) uwX8 0 rfl rfl 5 (by decide) w_917 rfl rfl dX8_feed_84 ?_
                  refine lv_iload hx hb dX8_feed_87 (lv_at hl 0 rfl) ?_
                  refine lv_bipush (v := (nI 24)) hx hb dX8_feed_89 (by decide +kernel) ?_
                  refine lv_bipush (v := (nI 8)) hx hb dX8_feed_91 (by decide +kernel) ?_
                  refine lv_iload hx hb dX8_feed_93 (lv_at hl 1 rfl) ?_
                  refine lv_iconst (v := (nI 4)) hx hb dX8_feed_95 (by decide +kernel) ?_
                  refine lv_irem hx hb dX8_feed_96 (by decide +kernel) ?_
                  refine g_vi (y := (nI (k % 4))) (nI_rem (by omega) (by omega)) ?_
                  refine lv_imul hx hb dX8_feed_97 ?_
                  refine g_vi (y := (nI (8 * (k % 4)))) (pk_mul _ _) ?_
                  refine lv_isub hx hb dX8_feed_98 ?_
                  refine g_vi (y := (nI (24 - (8 * (k % 4))))) (nI_sub (by omega)) ?_
                  refine lv_ishr hx hb dX8_feed_99 ?_
                  refine lv_sipush (v := (nI 255)) hx hb dX8_feed_100 (by decide +kernel) ?_
                  refine lv_iand hx hb dX8_feed_103 ?_
                  refine g_iast hC V 1 rfl (vp_in_nI (by omega) (by omega)) (f' := (upd gq tq ((vd >>> ((nI (24 - (8 * (k % 4)))) &&& 31)) &&& (nI 255)))) (by rw [nI_clamp (by omega)]) (ws' := [(o, .inr (8, [.int (nI 0), .ref g1, .ref g2, .ref g3, .ref g4, .int (nI tq), .int w6, .int w7, .int w8, .int w9, .int w10, .int w11, .int w12, .int w13, .int w14, .ref g15, .int w16, .ref g17, .int w18, .int w19, .ref g20, .int w21, .ref g22, .ref g23, .ref g24, .int w25, .int w26, .int w27, .ref g28, .ref g29, .int w30, .ref g31, .ref g32, .ref g33])), (g3, .inl (T 0, 900, .inl (upd gq tq ((vd >>> ((nI (24 - (8 * (k % 4)))) &&& 31)) &&& (nI 255)))))]) rfl dX8_feed_104 (fun H locs V => ?_)
                  refine lv_aload_n hx hb dX8_feed_105 rfl (lv_at hl 2 rfl) ?_
                  refine lv_dup hx hb dX8_feed_106 rfl ?_
                  refine g_get hC V (ci := 8) uwX8 0 rfl rfl 5 (by decide) w_917 rfl rfl dX8_feed_107 ?_
                  refine lv_iconst (v := (nI 1)) hx hb dX8_feed_110 (by decide +kernel) ?_
                  refine lv_iadd hx hb dX8_feed_111 ?_
                  refine g_vi (y := (nI (tq + 1))) (nI_add _ _) ?_
                  refine g_put hC V (ci := 8) uwX8 tyX8 tyX8_ok nmX8 0 rfl rfl 5 (by decide) w_917 rfl rfl rfl rfl (Nat.le_of_ble_eq_true rfl) (ws' := [(o, .inr (8, [.int (nI 0), .ref g1, .ref g2, .ref g3, .ref g4, .int (nI (tq + 1)), .int w6, .int w7, .int w8, .int w9, .int w10, .int w11, .int w12, .int w13, .int w14, .ref g15, .int w16, .ref g17, .int w18, .int w19, .ref g20, .int w21, .ref g22, .ref g23, .ref g24, .int w25, .int w26, .int w27, .ref g28, .ref g29, .int w30, .ref g31, .ref g32, .ref g33])), (g3, .inl (T 0, 900, .inl (upd gq tq ((vd >>> ((nI (24 - (8 * (k % 4)))) &&& 31)) &&& (nI 255)))))]) rfl dX8_feed_112 (fun H locs V => ?_)
                  refine lv_iinc (v := (nI (k + 1))) (lv' := [(6, .int (nI (k + 1))), (7, .int vd), (0, .ref o), (1, .int va), (2, .int vb), (3, .int vc), (4, .int vd), (5, .int ve)]) hx hb dX8_feed_115 hl (k := 1) rfl (nI_1 _) (by decide) rfl (fun ls hl => ?_)
                  refine lv_goto (tgt := 24) hx hb dX8_feed_118 (by decide) ?_
                  exact ih_24 (k + 1) (tq + 1) (upd gq tq ((vd >>> ((nI (24 - (8 * (k % 4)))) &&& 31)) &&& (nI 255))) (by omega) (by omega) (fun i hi => (up_other (by omega)).trans (hg1 i hi)) (by_one htq hg2 (by unfold byF byV shB; first | rw [if_pos (by omega)] | rw [if_neg (by omega), if_pos (by omega)] | rw [if_neg (by omega), if_neg (by omega), if_pos (by omega)] | rw [if_neg (by omega), if_neg (by omega), if_neg (by omega), if_pos (by omega)] | rw [if_neg (by omega), if_neg (by omega), if_neg (by omega), if_neg (by omega)])) (by omega) _ _ _ V (lv_sub hl [0, 2, 3, 4, 5, 6, 7] rfl)
              · skip
                have c_6 := b_nle (by omega) (by omega) c_6
                refine lv_iload_n hx hb dX8_feed_59 rfl (lv_at hl 4 rfl) ?_
                refine lv_goto (tgt := 77) hx hb dX8_feed_60 (by decide) ?_
                refine lv_istore (lv' := [(7, .int vc), (6, .int (nI k)), (0, .ref o), (1, .int va), (2, .int vb), (3, .int vc), (4, .int vd), (5, .int ve)]) hx hb dX8_feed_77 hl (by decide) rfl (fun ls hl => ?_)
                refine lv_aload_n hx hb dX8_feed_79 rfl (lv_at hl 2 rfl) ?_
                refine g_get hC V (ci := 8) uwX8 0 rfl rfl 3 (by decide) w_915 rfl rfl dX8_feed_80 ?_
                refine lv_aload_n hx hb dX8_feed_83 rfl (lv_at hl 2 rfl) ?_
                refine g_get hC V (ci := 8) uwX8 0 rfl rfl 5 (by decide) w_917 rfl rfl dX8_feed_84 ?_
                refine lv_iload hx hb dX8_feed_87 (lv_at hl 0 rfl) ?_
                refine lv_bipush (v := (nI 24)) hx hb dX8_feed_89 (by decide +kernel) ?_
                refine lv_bipush (v := (nI 8)) hx hb dX8_feed_91 (by decide +kernel) ?_
                refine lv_iload hx hb dX8_feed_93 (lv_at hl 1 rfl) ?_
                refine lv_iconst (v := (nI 4)) hx hb dX8_feed_95 (by decide +kernel) ?_
                refine lv_irem hx hb dX8_feed_96 (by decide +kernel) ?_
                refine g_vi (y := (nI (k % 4))) (nI_rem (by omega) (by omega)) ?_
                refine lv_imul hx hb dX8_feed_97 ?_
                refine g_vi (y := (nI (8 * (k % 4)))) (pk_mul _ _) ?_
                refine lv_isub hx hb dX8_feed_98 ?_
                refine g_vi (y := (nI (24 - (8 * (k % 4))))) (nI_sub (by omega)) ?_
                refine lv_ishr hx hb dX8_feed_99 ?_
                refine lv_sipush (v := (nI 255)) hx hb dX8_feed_100 (by decide +kernel) ?_
                refine lv_iand hx hb dX8_feed_103 ?_
                refine g_iast hC V 1 rfl (vp_in_nI (by omega) (by omega)) (f' := (upd gq tq ((vc >>> ((nI (24 - (8 * (k % 4)))) &&& 31)) &&& (nI 255)))) (by rw [nI_clamp (by omega)]) (ws' := [(o, .inr (8, [.int (nI 0), .ref g1, .ref g2, .ref g3, .ref g4, .int (nI tq), .int w6, .int w7, .int w8, .int w9, .int w10, .int w11, .int w12, .int w13, .int w14, .ref g15, .int w16, .ref g17, .int w18, .int w19, .ref g20, .int w21, .ref g22, .ref g23, .ref g24, .int w25, .int w26, .int w27, .ref g28, .ref g29, .int w30, .ref g31, .ref g32, .ref g33])), (g3, .inl (T 0, 900, .inl (upd gq tq ((vc >>> ((nI (24 - (8 * (k % 4)))) &&& 31)) &&& (nI 255)))))]) rfl dX8_feed_104 (fun H locs V => ?_)
                refine lv_aload_n hx hb dX8_feed_105 rfl (lv_at hl 2 rfl) ?_
                refine lv_dup hx hb dX8_feed_106 rfl ?_
                refine g_get hC V (ci := 8) uwX8 0 rfl rfl 5 (by decide) w_917 rfl rfl dX8_feed_107 ?_
                refine lv_iconst (v := (nI 1)) hx hb dX8_feed_110 (by decide +kernel) ?_
                refine lv_iadd hx hb dX8_feed_111 ?_
                refine g_vi (y := (nI (tq + 1))) (nI_add _ _) ?_
                refine g_put hC V (ci := 8) uwX8 tyX8 tyX8_ok nmX8 0 rfl rfl 5 (by decide) w_917 rfl rfl rfl rfl (Nat.le_of_ble_eq_true rfl) (ws' := [(o, .inr (8, [.int (nI 0), .ref g1, .ref g2, .ref g3, .ref g4, .int (nI (tq + 1)), .int w6, .int w7, .int w8, .int w9, .int w10, .int w11, .int w12, .int w13, .int w14, .ref g15, .int w16, .ref g17, .int w18, .int w19, .ref g20, .int w21, .ref g22, .ref g23, .ref g24, .int w25, .int w26, .int w27, .ref g28, .ref g29, .int w30, .ref g31, .ref g32, .ref g33])), (g3, .inl (T 0, 900, .inl (upd gq tq ((vc >>> ((nI (24 - (8 * (k % 4)))) &&& 31)) &&& (nI 255)))))]) rfl dX8_feed_112 (fun H locs V => ?_)
                refine lv_iinc (v := (nI (k + 1))) (lv' := [(6, .int (nI (k + 1))), (7, .int vc), (0, .ref o), (1, .int va), (2, .int vb), (3, .int vc), (4, .int vd), (5, .int ve)]) hx hb dX8_feed_115 hl (k := 1) rfl (nI_1 _) (by decide) rfl (fun ls hl => ?_)
                refine lv_goto (tgt := 24) hx hb dX8_feed_118 (by decide) ?_
                exact ih_24 (k + 1) (tq + 1) (upd gq tq ((vc >>> ((nI (24 - (8 * (k % 4)))) &&& 31)) &&& (nI 255))) (by omega) (by omega) (fun i hi => (up_other (by omega)).trans (hg1 i hi)) (by_one htq hg2 (by unfold byF byV shB; first | rw [if_pos (by omega)] | rw [if_neg (by omega), if_pos (by omega)] | rw [if_neg (by omega), if_neg (by omega), if_pos (by omega)] | rw [if_neg (by omega), if_neg (by omega), if_neg (by omega), if_pos (by omega)] | rw [if_neg (by omega), if_neg (by omega), if_neg (by omega), if_neg (by omega)])) (by omega) _ _ _ V (lv_sub hl [0, 2, 3, 4, 5, 6, 7] rfl)
            · skip
              have c_5 := b_nle (by omega) (by omega) c_5
              refine lv_iload_n hx hb dX8_feed_48 rfl (lv_at hl 3 rfl) ?_
              refine lv_goto (tgt := 77) hx hb dX8_feed_49 (by decide) ?_
              refine lv_istore (lv' := [(7, .int vb), (6, .int (nI k)), (0, .ref o), (1, .int va), (2, .int vb), (3, .int vc), (4, .int vd), (5, .int ve)]) hx hb dX8_feed_77 hl (by decide) rfl (fun ls hl => ?_)
              refine lv_aload_n hx hb dX8_feed_79 rfl (lv_at hl 2 rfl) ?_
              refine g_get hC V (ci := 8) uwX8 0 rfl rfl 3 (by decide) w_915 rfl rfl dX8_feed_80 ?_
              refine lv_aload_n hx hb dX8_feed_83 rfl (lv_at hl 2 rfl) ?_
              refine g_get hC V (ci := 8) uwX8 0 rfl rfl 5 (by decide) w_917 rfl rfl dX8_feed_84 ?_
              refine lv_iload hx hb dX8_feed_87 (lv_at hl 0 rfl) ?_
              refine lv_bipush (v := (nI 24)) hx hb dX8_feed_89 (by decide +kernel) ?_
              refine lv_bipush (v := (nI 8)) hx hb dX8_feed_91 (by decide +kernel) ?_
              refine lv_iload hx hb dX8_feed_93 (lv_at hl 1 rfl) ?_
              refine lv_iconst (v := (nI 4)) hx hb dX8_feed_95 (by decide +kernel) ?_
              refine lv_irem hx hb dX8_feed_96 (by decide +kernel) ?_
              refine g_vi (y := (nI (k % 4))) (nI_rem (by omega) (by omega)) ?_
              refine lv_imul hx hb dX8_feed_97 ?_
              refine g_vi (y := (nI (8 * (k % 4)))) (pk_mul _ _) ?_
              refine lv_isub hx hb dX8_feed_98 ?_
              refine g_vi (y := (nI (24 - (8 * (k % 4))))) (nI_sub (by omega)) ?_
              refine lv_ishr hx hb dX8_feed_99 ?_
              refine lv_sipush (v := (nI 255)) hx hb dX8_feed_100 (by decide +kernel) ?_
              refine lv_iand hx hb dX8_feed_103 ?_
              refine g_iast hC V 1 rfl (vp_in_nI (by omega) (by omega)) (f' := (upd gq tq ((vb >>> ((nI (24 - (8 * (k % 4)))) &&& 31)) &&& (nI 255)))) (by rw [nI_clamp (by omega)]) (ws' := [(o, .inr (8, [.int (nI 0), .ref g1, .ref g2, .ref g3, .ref g4, .int (nI tq), .int w6, .int w7, .int w8, .int w9, .int w10, .int w11, .int w12, .int w13, .int w14, .ref g15, .int w16, .ref g17, .int w18, .int w19, .ref g20, .int w21, .ref g22, .ref g23, .ref g24, .int w25, .int w26, .int w27, .ref g28, .ref g29, .int w30, .ref g31, .ref g32, .ref g33])), (g3, .inl (T 0, 900, .inl (upd gq tq ((vb >>> ((nI (24 - (8 * (k % 4)))) &&& 31)) &&& (nI 255)))))]) rfl dX8_feed_104 (fun H locs V => ?_)
              refine lv_aload_n hx hb dX8_feed_105 rfl (lv_at hl 2 rfl) ?_
              refine lv_dup hx hb dX8_feed_106 rfl ?_
              refine g_get hC V (ci := 8) uwX8 0 rfl rfl 5 (by decide) w_917 rfl rfl dX8_feed_107 ?_
              refine lv_iconst (v := (nI 1)) hx hb dX8_feed_110 (by decide +kernel) ?_
              refine lv_iadd hx hb dX8_feed_111 ?_
              refine g_vi (y := (nI (tq + 1))) (nI_add _ _) ?_
              refine g_put hC V (ci := 8) uwX8 tyX8 tyX8_ok nmX8 0 rfl rfl 5 (by decide) w_917 rfl rfl rfl rfl (Nat.le_of_ble_eq_true rfl) (ws' := [(o, .inr (8, [.int (nI 0), .ref g1, .ref g2, .ref g3, .ref g4, .int (nI (tq + 1)), .int w6, .int w7, .int w8, .int w9, .int w10, .int w11, .int w12, .int w13, .int w14, .ref g15, .int w16, .ref g17, .int w18, .int w19, .ref g20, .int w21, .ref g22, .ref g23, .ref g24, .int w25, .int w26, .int w27, .ref g28, .ref g29, .int w30, .ref g31, .ref g32, .ref g33])), (g3, .inl (T 0, 900, .inl (upd gq tq ((vb >>> ((nI (24 - (8 * (k % 4)))) &&& 31)) &&& (nI 255)))))]) rfl dX8_feed_112 (fun H locs V => ?_)
              refine lv_iinc (v := (nI (k + 1))) (lv' := [(6, .int (nI (k + 1))), (7, .int vb), (0, .ref o), (1, .int va), (2, .int vb), (3, .int vc), (4, .int vd), (5, .int ve)]) hx hb dX8_feed_115 hl (k := 1) rfl (nI_1 _) (by decide) rfl (fun ls hl => ?_)
              refine lv_goto (tgt := 24) hx hb dX8_feed_118 (by decide) ?_
              exact ih_24 (k + 1) (tq + 1) (upd gq tq ((vb >>> ((nI (24 - (8 * (k % 4)))) &&& 31)) &&& (nI 255))) (by omega) (by omega) (fun i hi => (up_other (by omega)).trans (hg1 i hi)) (by_one htq hg2 (by unfold byF byV shB; first | rw [if_pos (by omega)] | rw [if_neg (by omega), if_pos (by omega)] | rw [if_neg (by omega), if_neg (by omega), if_pos (by omega)] | rw [if_neg (by omega), if_neg (by omega), if_neg (by omega), if_pos (by omega)] | rw [if_neg (by omega), if_neg (by omega), if_neg (by omega), if_neg (by omega)])) (by omega) _ _ _ V (lv_sub hl [0, 2, 3, 4, 5, 6, 7] rfl)
          · skip
            have c_4 := b_nle (by omega) (by omega) c_4
            refine lv_iload_n hx hb dX8_feed_37 rfl (lv_at hl 2 rfl) ?_
            refine lv_goto (tgt := 77) hx hb dX8_feed_38 (by decide) ?_
            refine lv_istore (lv' := [(7, .int va), (6, .int (nI k)), (0, .ref o), (1, .int va), (2, .int vb), (3, .int vc), (4, .int vd), (5, .int ve)]) hx hb dX8_feed_77 hl (by decide) rfl (fun ls hl => ?_)
            refine lv_aload_n hx hb dX8_feed_79 rfl (lv_at hl 2 rfl) ?_
            refine g_get hC V (ci := 8) uwX8 0 rfl rfl 3 (by decide) w_915 rfl rfl dX8_feed_80 ?_
            refine lv_aload_n hx hb dX8_feed_83 rfl (lv_at hl 2 rfl) ?_
            refine g_get hC V (ci := 8) uwX8 0 rfl rfl 5 (by decide) w_917 rfl rfl dX8_feed_84 ?_
            refine lv_iload hx hb dX8_feed_87 (lv_at hl 0 rfl) ?_
            refine lv_bipush (v := (nI 24)) hx hb dX8_feed_89 (by decide +kernel) ?_
            refine lv_bipush (v := (nI 8)) hx hb dX8_feed_91 (by decide +kernel) ?_
            refine lv_iload hx hb dX8_feed_93 (lv_at hl 1 rfl) ?_
            refine lv_iconst (v := (nI 4)) hx hb dX8_feed_95 (by decide +kernel) ?_
            refine lv_irem hx hb dX8_feed_96 (by decide +kernel) ?_
            refine g_vi (y := (nI (k % 4))) (nI_rem (by omega) (by omega)) ?_
            refine lv_imul hx hb dX8_feed_97 ?_
            refine g_vi (y := (nI (8 * (k % 4)))) (pk_mul _ _) ?_
            refine lv_isub hx hb dX8_feed_98 ?_
            refine g_vi (y := (nI (24 - (8 * (k % 4))))) (nI_sub (by omega)) ?_
            refine lv_ishr hx hb dX8_feed_99 ?_
            refine lv_sipush (v := (nI 255)) hx hb dX8_feed_100 (by decide +kernel) ?_
            refine lv_iand hx hb dX8_feed_103 ?_
            refine g_iast hC V 1 rfl (vp_in_nI (by omega) (by omega)) (f' := (upd gq tq ((va >>> ((nI (24 - (8 * (k % 4)))) &&& 31)) &&& (nI 255)))) (by rw [nI_clamp (by omega)]) (ws' := [(o, .inr (8, [.int (nI 0), .ref g1, .ref g2, .ref g3, .ref g4, .int (nI tq), .int w6, .int w7, .int w8, .int w9, .int w10, .int w11, .int w12, .int w13, .int w14, .ref g15, .int w16, .ref g17, .int w18, .int w19, .ref g20, .int w21, .ref g22, .ref g23, .ref g24, .int w25, .int w26, .int w27, .ref g28, .ref g29, .int w30, .ref g31, .ref g32, .ref g33])), (g3, .inl (T 0, 900, .inl (upd gq tq ((va >>> ((nI (24 - (8 * (k % 4)))) &&& 31)) &&& (nI 255)))))]) rfl dX8_feed_104 (fun H locs V => ?_)
            refine lv_aload_n hx hb dX8_feed_105 rfl (lv_at hl 2 rfl) ?_
            refine lv_dup hx hb dX8_feed_106 rfl ?_
            refine g_get hC V (ci := 8) uwX8 0 rfl rfl 5 (by decide) w_917 rfl rfl dX8_feed_107 ?_
            refine lv_iconst (v := (nI 1)) hx hb dX8_feed_110 (by decide +kernel) ?_
            refine lv_iadd hx hb dX8_feed_111 ?_
            refine g_vi (y := (nI (tq + 1))) (nI_add _ _) ?_
            refine g_put hC V (ci := 8) uwX8 tyX8 tyX8_ok nmX8 0 rfl rfl 5 (by decide) w_917 rfl rfl rfl rfl (Nat.le_of_ble_eq_true rfl) (ws' := [(o, .inr (8, [.int (nI 0), .ref g1, .ref g2, .ref g3, .ref g4, .int (nI (tq + 1)), .int w6, .int w7, .int w8, .int w9, .int w10, .int w11, .int w12, .int w13, .int w14, .ref g15, .int w16, .ref g17, .int w18, .int w19, .ref g20, .int w21, .ref g22, .ref g23, .ref g24, .int w25, .int w26, .int w27, .ref g28, .ref g29, .int w30, .ref g31, .ref g32, .ref g33])), (g3, .inl (T 0, 900, .inl (upd gq tq ((va >>> ((nI (24 - (8 * (k % 4)))) &&& 31)) &&& (nI 255)))))]) rfl dX8_feed_112 (fun H locs V => ?_)
            refine lv_iinc (v := (nI (k + 1))) (lv' := [(6, .int (nI (k + 1))), (7, .int va), (0, .ref o), (1, .int va), (2, .int vb), (3, .int vc), (4, .int vd), (5, .int ve)]) hx hb dX8_feed_115 hl (k := 1) rfl (nI_1 _) (by decide) rfl (fun ls hl => ?_)
            refine lv_goto (tgt := 24) hx hb dX8_feed_118 (by decide) ?_
            exact ih_24 (k + 1) (tq + 1) (upd gq tq ((va >>> ((nI (24 - (8 * (k % 4)))) &&& 31)) &&& (nI 255))) (by omega) (by omega) (fun i hi => (up_other (by omega)).trans (hg1 i hi)) (by_one htq hg2 (by unfold byF byV shB; first | rw [if_pos (by omega)] | rw [if_neg (by omega), if_pos (by omega)] | rw [if_neg (by omega), if_neg (by omega), if_pos (by omega)] | rw [if_neg (by omega), if_neg (by omega), if_neg (by omega), if_pos (by omega)] | rw [if_neg (by omega), if_neg (by omega), if_neg (by omega), if_neg (by omega)])) (by omega) _ _ _ V (lv_sub hl [0, 2, 3, 4, 5, 6, 7] rfl)
    exact L_2 _ 0 tp ft (by omega) (by omega) (fun _ _ => rfl) (fun i h => absurd h (Nat.not_lt_zero _)) (Nat.lt_succ_self _) _ _ _ V (lv_sub hl [0, 1, 2, 3, 4, 5, 6] rfl)
  · skip
    have c_1 := b_nle (by omega) (by omega) c_1
    refine lv_bipush (v := (-5)) hx hb dX8_feed_18 (by decide +kernel) ?_
    exact g_iret (Qr := (q_m_feed_f T o va vb vc vd ve w0 g1 g2 g3 g4 tp w6 w7 w8 w9 w10 w11 w12 w13 w14 g15 w16 g17 w18 w19 g20 w21 g22 g23 g24 w25 w26 w27 g28 g29 w30 g31 g32 g33 ft)) hC V ⟨(Nat.le_of_ble_eq_true rfl), (Nat.le_of_ble_eq_true rfl)⟩ ⟨(-5), tp, ft, rfl, rfl, (fd_1 (by omega)), (fd_3 (by omega)), (fun _ => rfl), (fun h => absurd (by omega) h)⟩ dX8_feed_20
