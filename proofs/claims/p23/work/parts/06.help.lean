/-- a number from 0 on, below b -/
def bd (x : Int32) (b : Nat) : Prop := ∃ j : Nat, j < b ∧ x = nI j
theorem bd_ex {x : Int32} {b : Nat} (h : bd x b) : ∃ j : Nat, j < b ∧ x = nI j := h
theorem bd_nI {j b : Nat} (h : j < b) : bd (nI j) b := ⟨j, h, rfl⟩
theorem bd_le {x : Int32} {a b : Nat} (h : bd x a) (hab : a ≤ b) : bd x b := by obtain ⟨j, hj, e⟩ := h; exact ⟨j, by omega, e⟩
theorem up_same {f : Nat → Int32} {k : Nat} {x : Int32} : upd f k x k = x := by simp [upd]
theorem up_other {f : Nat → Int32} {k j : Nat} {x : Int32} (h : j ≠ k) : upd f k x j = f j := by simp [upd, h]
/-- what holds of all elements holds behind a store -/
theorem up_all {f : Nat → Int32} {k n : Nat} {x : Int32} {p : Int32 → Prop} (h : ∀ i, i < n → p (f i)) (hx : k < n → p x) : ∀ i, i < n → p (upd f k x i) := by
  intro i hi
  by_cases e : i = k
  · subst e; rw [up_same]; exact hx hi
  · rw [up_other e]; exact h i hi
/-- one element more -/
theorem up_one {f : Nat → Int32} {k : Nat} {x : Int32} {p : Nat → Int32 → Prop} (h : ∀ i, i < k → p i (f i)) (hx : p k x) : ∀ i, i < k + 1 → p i (upd f k x i) := by
  intro i hi
  by_cases e : i = k
  · subst e; rw [up_same]; exact hx
  · rw [up_other e]; exact h i (by omega)
theorem upL_same {f : Nat → Int64} {k : Nat} {x : Int64} : vp_updL f k x k = x := by simp [vp_updL]
theorem upL_other {f : Nat → Int64} {k j : Nat} {x : Int64} (h : j ≠ k) : vp_updL f k x j = f j := by simp [vp_updL, h]
theorem g_idx {x : Int32} {n : Nat} (hn : n < 2147483648) (h0 : ¬ x < 0) (h1 : ¬ nI n ≤ x) : ∃ j : Nat, j < n ∧ x = nI j := by
  rcases pk_ix x (n := n) hn with h | h | h
  · exact absurd h h0
  · exact absurd h h1
  · exact h
theorem g_rng {x : Int32} {a b : Nat} (ha : a < 2147483648) (hb : b < 2147483647) (h1 : ¬ x < nI a) (h2 : ¬ nI b < x) : ∃ j : Nat, a ≤ j ∧ j ≤ b ∧ x = nI j := by
  have h0 : ¬ x < 0 := fun h => h1 (by rw [Int32.lt_iff_toInt_lt] at h ⊢; rw [nI_toInt ha]; have : (0 : Int32).toInt = 0 := by decide
                                       omega)
  obtain ⟨j, hj, rfl⟩ := nI_of h0
  exact ⟨j, b_nlt hj ha h1, b_nlt (by omega) hj h2, rfl⟩
theorem pw10 {n : Nat} (h : n ≤ 10) : 1 ≤ 2 ^ n ∧ 2 ^ n ≤ 1024 := ⟨Nat.one_le_two_pow, Nat.pow_le_pow_right (by decide) h⟩
theorem pw3 {n : Nat} (h : n ≤ 3) : 1 ≤ 2 ^ n ∧ 2 ^ n ≤ 8 := ⟨Nat.one_le_two_pow, Nat.pow_le_pow_right (by decide) h⟩
theorem shl_pow {n : Nat} (h : n ≤ 30) : nI 1 <<< (nI n &&& 31) = nI (2 ^ n) := by
  have h3 : ∀ m : Fin 31, nI 1 <<< (nI m.1 &&& 31) = nI (2 ^ m.1) := by decide +kernel
  exact h3 ⟨n, by omega⟩
theorem lay_skip {g : Nat → Int32} {n k : Nat} (hg : ∀ i, i < n → (bd (g i) n ∨ (g i = -1 ∧ k ≤ i))) (c : ¬ g k = -1) : ∀ i, i < n → (bd (g i) n ∨ (g i = -1 ∧ k + 1 ≤ i)) := by
  intro i hi
  rcases hg i hi with h | ⟨h1, h2⟩
  · exact Or.inl h
  · refine Or.inr ⟨h1, ?_⟩
    have : i ≠ k := fun e => c (e ▸ h1)
    omega
theorem lay_put {g : Nat → Int32} {n k : Nat} {x : Int32} (hg : ∀ i, i < n → (bd (g i) n ∨ (g i = -1 ∧ k ≤ i))) (hx : bd x n) : ∀ i, i < n → (bd (upd g k x i) n ∨ (upd g k x i = -1 ∧ k + 1 ≤ i)) := by
  intro i hi
  by_cases e : i = k
  · subst e; rw [up_same]; exact Or.inl hx
  · rw [up_other e]
    rcases hg i hi with h | ⟨h1, h2⟩
    · exact Or.inl h
    · exact Or.inr ⟨h1, by omega⟩

/-- a number as a ROW of a sort keeps it -/
def cutv (sort : Nat) (v : Int64) : Int64 := if sort = 0 then v.toInt32.toInt8.toInt32.toInt64 else if sort = 1 then v.toInt32.toInt16.toInt32.toInt64 else if sort = 2 then v.toInt32.toInt64 else v

theorem upL_one {f : Nat → Int64} {k : Nat} {x : Int64} {p : Nat → Int64 → Prop} (h : ∀ i, i < k → p i (f i)) (hx : p k x) : ∀ i, i < k + 1 → p i (vp_updL f k x i) := by
  intro i hi
  by_cases e : i = k
  · subst e; rw [upL_same]; exact hx
  · rw [upL_other e]; exact h i (by omega)

/-- the char at k of a string constant -/
def sch (i k : Nat) : Int32 := (((sByt.getD i []).getD k 0 &&& nI 255).toUInt32 % 65536).toInt32
theorem slen_le {i : Nat} (h : i < 9) : sLen.getD i 0 ≤ 44 := by
  have : ∀ i : Fin 9, sLen.getD i.1 0 ≤ 44 := by decide +kernel
  exact this ⟨i, h⟩
theorem sch_nar {i k : Nat} (h : i < 9) (hk : k < 44) : narrow .char (.int (sch i k)) = .int (sch i k) := by
  have : ∀ (i : Fin 9) (k : Fin 44), narrow .char (.int (sch i.1 k.1)) = .int (sch i.1 k.1) := by decide +kernel
  exact this ⟨i, h⟩ ⟨k, hk⟩
theorem shr0 (x : Int32) : x >>> (nI 0 &&& 31) = x := by
  rw [show nI 0 &&& 31 = 0 by decide +kernel]
  exact Int32.shiftRight_zero

theorem nI_sub {a b : Nat} (h : b ≤ a) : nI a - nI b = nI (a - b) := by
  obtain ⟨c, rfl⟩ : ∃ c, a = c + b := ⟨a - b, by omega⟩
  rw [← nI_add, Nat.add_sub_cancel, Int32.add_sub_cancel]
theorem hash_bd (x : Int64) : bd ((x.toUInt64 >>> ((nI 51).toInt64.toUInt64 &&& Int64.toUInt64 63)).toInt64.toInt32) 8192 := by
  have e1 : ((nI 51).toInt64.toUInt64 &&& Int64.toUInt64 63) = 51 := by decide +kernel
  rw [e1]
  refine ⟨x.toUInt64.toNat / 2 ^ 51, ?_, ?_⟩
  · have := x.toUInt64.toNat_lt
    omega
  · have e2 : (x.toUInt64 >>> 51).toNat = x.toUInt64.toNat / 2 ^ 51 := by
      rw [UInt64.toNat_shiftRight]
      simp [Nat.shiftRight_eq_div_pow]
    have h3 : x.toUInt64.toNat / 2 ^ 51 < 8192 := by have := x.toUInt64.toNat_lt; omega
    generalize x.toUInt64 >>> 51 = y at e2
    apply Int32.toBitVec_inj.mp
    apply BitVec.eq_of_toNat_eq
    rw [← e2] at h3 ⊢
    have : y.toInt64.toInt32.toBitVec = y.toBitVec.setWidth 32 := by
      show (y.toInt64.toBitVec).signExtend 32 = _
      rw [BitVec.signExtend_eq_setWidth_of_le _ (by decide)]
      rfl
    rw [this]
    show _ = (BitVec.ofNat 32 y.toNat).toNat
    simp
theorem or8 {a b : Nat} (ha : a < 8) (hb : b < 8) : bd (nI a ||| nI b) 8 := by
  have h : ∀ x y : Fin 8, bd (nI x.1 ||| nI y.1) 8 := by
    intro x y
    refine ⟨x.1 ||| y.1, ?_, ?_⟩
    · exact (Nat.or_lt_two_pow (n := 3) x.2 y.2)
    · revert x y; decide +kernel
  exact h ⟨a, ha⟩ ⟨b, hb⟩
theorem pw_lt3 {k : Nat} (h : k < 3) : 2 ^ k < 8 := Nat.pow_lt_pow_right (by decide) h

theorem min_nI {a b : Nat} (ha : a < 2147483648) (hb : b < 2147483648) : (if nI b < nI a then nI b else nI a) = nI (min a b) := by
  by_cases h : b < a
  · rw [if_pos ((nI_ltI hb ha).mpr h), Nat.min_eq_right (by omega)]
  · rw [if_neg (fun e => h ((nI_ltI hb ha).mp e)), Nat.min_eq_left (by omega)]
theorem z_dec : (nI 0 : Int32) = 0 := by decide +kernel

theorem pred_bd {n : Nat} {z : Int32} (hn : n ≤ 10) (h1 : ¬ z < nI 0) (h2 : ¬ nI n - nI 1 < z) : bd z n := by
  by_cases h0 : n = 0
  · subst h0
    exfalso
    have e : nI 0 - nI 1 = -1 := by decide +kernel
    rw [e] at h2
    rw [Int32.lt_iff_toInt_lt] at h1 h2
    have a1 : (nI 0).toInt = 0 := by decide +kernel
    have a2 : (-1 : Int32).toInt = -1 := by decide +kernel
    omega
  · rw [nI_sub (by omega)] at h2
    obtain ⟨j, hj1, hj2, e⟩ := g_rng (by decide) (by omega) h1 h2
    exact ⟨j, by omega, e⟩

def q_z_coder (T : Nat → ClassId) (si : Nat) : Option Value → va_W → Prop := fun rr ww => (rr = some (.int (nI 0)) ∧ ww = [])
set_option maxHeartbeats 4000000 in
set_option maxRecDepth 100000 in
theorem z_coder (l : Launch) (D : va_G) (T : Nat → ClassId) (si : Nat) (h_i : si < 9) : Ct l yJ0_coder_7d493 cJ0_coder_7d493 1 (some .byte) 0 0 0 D T [.ref (D.2 9 si)] [] (q_z_coder T si) := by
  refine Ct.ofF (cc := cJ0_coder_7d493) (maxL := 1) (ret := (some .byte)) (by decide +kernel) (Nat.le_of_ble_eq_true rfl) ?_
  intro p e s m args below meth c A ls hC hnm V hl
  obtain ⟨hx, hb, hr, hml, hown, hts, hlocks⟩ := id hC
  generalize hH : s.heap = H at V ⊢
  clear hH
  have hl : lv_has ls 1 [(0, .ref (D.2 9 si))] := hl
  generalize hlo : ([] : List Loc) = locs at V ⊢
  clear hlo
  refine g_scs hC V w_334 dJ0_coder_7d493_0 ?_
  refine g_vi (y := (nI 1)) (by decide +kernel) ?_
  refine lv_if_eq (tgt := 13) hx hb dJ0_coder_7d493_3 (by decide) (fun c => absurd (show (nI 1) = 0 from c) (by decide +kernel)) (fun _ => ?_)
  refine lv_aload_n hx hb dJ0_coder_7d493_6 rfl (lv_at hl 0 rfl) ?_
  refine g_scod hC V (si := si) (by first | assumption | decide) w_1413 dJ0_coder_7d493_7 ?_
  refine g_vi (y := (nI 0)) (by decide +kernel) ?_
  refine lv_goto (tgt := 14) hx hb dJ0_coder_7d493_10 (by decide) ?_
  exact g_nret (Qr := (q_z_coder T si)) hC V ⟨(Nat.le_of_ble_eq_true rfl), (Nat.le_of_ble_eq_true rfl)⟩ (by first | decide +kernel | exact rfl) ⟨rfl, rfl⟩ dJ0_coder_7d493_14

def q_z_isLatin1 (T : Nat → ClassId) (si : Nat) : Option Value → va_W → Prop := fun rr ww => (rr = some (.int (nI 1)) ∧ ww = [])
set_option maxHeartbeats 4000000 in
set_option maxRecDepth 100000 in
theorem z_isLatin1 (l : Launch) (D : va_G) (T : Nat → ClassId) (si : Nat) (h_i : si < 9) : Ct l yJ0_isLatin1_aae02 cJ0_isLatin1_aae02 1 (some .boolean) 0 0 0 D T [.ref (D.2 9 si)] [] (q_z_isLatin1 T si) := by
  refine Ct.ofF (cc := cJ0_isLatin1_aae02) (maxL := 1) (ret := (some .boolean)) (by decide +kernel) (Nat.le_of_ble_eq_true rfl) ?_
  intro p e s m args below meth c A ls hC hnm V hl
  obtain ⟨hx, hb, hr, hml, hown, hts, hlocks⟩ := id hC
  generalize hH : s.heap = H at V ⊢
  clear hH
  have hl : lv_has ls 1 [(0, .ref (D.2 9 si))] := hl
  generalize hlo : ([] : List Loc) = locs at V ⊢
  clear hlo
  refine g_scs hC V w_334 dJ0_isLatin1_aae02_0 ?_
  refine g_vi (y := (nI 1)) (by decide +kernel) ?_
  refine lv_if_eq (tgt := 17) hx hb dJ0_isLatin1_aae02_3 (by decide) (fun c => absurd (show (nI 1) = 0 from c) (by decide +kernel)) (fun _ => ?_)
  refine lv_aload_n hx hb dJ0_isLatin1_aae02_6 rfl (lv_at hl 0 rfl) ?_
  refine g_scod hC V (si := si) (by first | assumption | decide) w_1413 dJ0_isLatin1_aae02_7 ?_
  refine g_vi (y := (nI 0)) (by decide +kernel) ?_
  refine lv_if_ne (tgt := 17) hx hb dJ0_isLatin1_aae02_10 (by decide) (fun c => absurd (show (nI 0) = 0 by decide +kernel) c) (fun _ => ?_)
  refine lv_iconst (v := (nI 1)) hx hb dJ0_isLatin1_aae02_13 (by decide +kernel) ?_
  refine lv_goto (tgt := 18) hx hb dJ0_isLatin1_aae02_14 (by decide) ?_
  exact g_zret (Qr := (q_z_isLatin1 T si)) hC V ⟨(Nat.le_of_ble_eq_true rfl), (Nat.le_of_ble_eq_true rfl)⟩ (by first | decide +kernel | exact rfl) ⟨rfl, rfl⟩ dJ0_isLatin1_aae02_18

def q_z_length (T : Nat → ClassId) (si : Nat) : Option Value → va_W → Prop := fun rr ww => (rr = some (.int (nI (sLen.getD si 0))) ∧ ww = [])
set_option maxHeartbeats 4000000 in
set_option maxRecDepth 100000 in
theorem z_length (l : Launch) (D : va_G) (T : Nat → ClassId) (si : Nat) (h_i : si < 9) : Ct l yJ0_length_8abf5 cJ0_length_8abf5 1 (some .int) 1 0 0 D T [.ref (D.2 9 si)] [] (q_z_length T si) := by
  refine Ct.ofF (cc := cJ0_length_8abf5) (maxL := 1) (ret := (some .int)) (by decide +kernel) (Nat.le_of_ble_eq_true rfl) ?_
  intro p e s m args below meth c A ls hC hnm V hl
  obtain ⟨hx, hb, hr, hml, hown, hts, hlocks⟩ := id hC
  generalize hH : s.heap = H at V ⊢
  clear hH
  have hl : lv_has ls 1 [(0, .ref (D.2 9 si))] := hl
  generalize hlo : ([] : List Loc) = locs at V ⊢
  clear hlo
  refine lv_aload_n hx hb dJ0_length_8abf5_0 rfl (lv_at hl 0 rfl) ?_
  refine g_sval hC V (si := si) (by first | assumption | decide) w_1412 dJ0_length_8abf5_1 ?_
  refine g_slen hC V (si := si) (by first | assumption | decide) dJ0_length_8abf5_4 ?_
  refine lv_aload_n hx hb dJ0_length_8abf5_5 rfl (lv_at hl 0 rfl) ?_
  refine g_callZ (wr := []) (nA := 0) hC V hl.1 (z_coder l D T si (by first | assumption | omega)) w_330 w_331 w_332 w_12 w_333 (by decide +kernel) rfl ⟨(Nat.le_of_ble_eq_true rfl), (Nat.le_of_ble_eq_true rfl)⟩ (si := si) (by first | assumption | decide) rfl rfl [] [] rfl rfl rfl rfl (by decide) (Nat.le_of_ble_eq_true rfl) dJ0_length_8abf5_6 ⟨(Nat.le_of_ble_eq_true rfl), (Nat.le_of_ble_eq_true rfl)⟩ rfl (fun r w1 H locs hQ V => ?_)
  obtain ⟨rfl, rfl⟩ := hQ
  have V : gW D T A s [] H locs := V
  show W p l e _ s m args below meth c H locs _ _ _ (F0 m 9 ls [.int (nI 0), .int (nI (sLen.getD si 0))])
  refine lv_ishr hx hb dJ0_length_8abf5_9 ?_
  refine g_vi (y := (nI (sLen.getD si 0))) (shr0 _) ?_
  exact g_iret (Qr := (q_z_length T si)) hC V ⟨(Nat.le_of_ble_eq_true rfl), (Nat.le_of_ble_eq_true rfl)⟩ ⟨rfl, rfl⟩ dJ0_length_8abf5_10

def q_z_check3 (T : Nat → ClassId) (j : Nat) (n : Nat) (fm : Nat) : Option Value → va_W → Prop := fun rr ww => (rr = some (.int (nI j)) ∧ ww = [])
set_option maxHeartbeats 4000000 in
set_option maxRecDepth 100000 in
theorem z_check3 (l : Launch) (D : va_G) (T : Nat → ClassId) (j : Nat) (n : Nat) (fm : Nat) (h_j : j < n) (h_n : n ≤ 1000) : Ct l yJ3_checkIndex_8e157 cJ3_checkIndex_8e157 3 (some .int) 0 0 0 D T [.int (nI j), .int (nI n), .ref fm] [] (q_z_check3 T j n fm) := by
  refine Ct.of (cc := cJ3_checkIndex_8e157) (maxL := 3) (ret := (some .int)) (by decide) (Nat.le_of_ble_eq_true rfl) ?_
  intro p e s m args below meth c A ls hC hnm V hl
  obtain ⟨hx, hb, hr, hml, hown, hts, hlocks⟩ := id hC
  generalize hH : s.heap = H at V ⊢
  clear hH
  have hl : lv_has ls 3 [(0, .int (nI j)), (1, .int (nI n)), (2, .ref fm)] := hl
  generalize hlo : ([] : List Loc) = locs at V ⊢
  clear hlo
  refine lv_iload_n hx hb dJ3_checkIndex_8e157_0 rfl (lv_at hl 0 rfl) ?_
  refine lv_if_lt (tgt := 9) hx hb dJ3_checkIndex_8e157_1 (by decide) (fun c_1 => ?_) (fun c_1 => ?_)
  · skip
    rw [show (0 : Int32) = nI 0 from rfl] at c_1
    have c_1 := b_lt (by omega) (by omega) c_1
    exact (by omega : False).elim
  · skip
    rw [show (0 : Int32) = nI 0 from rfl] at c_1
    have c_1 := b_nlt (by omega) (by omega) c_1
    refine lv_iload_n hx hb dJ3_checkIndex_8e157_4 rfl (lv_at hl 0 rfl) ?_
    refine lv_iload_n hx hb dJ3_checkIndex_8e157_5 rfl (lv_at hl 1 rfl) ?_
    refine lv_icmp_lt (tgt := 16) hx hb dJ3_checkIndex_8e157_6 (by decide) (fun c_2 => ?_) (fun c_2 => ?_)
    · skip
      have c_2 := b_lt (by omega) (by omega) c_2
      refine lv_iload_n hx hb dJ3_checkIndex_8e157_16 rfl (lv_at hl 0 rfl) ?_
      exact g_iret (Qr := (q_z_check3 T j n fm)) hC V ⟨(Nat.le_of_ble_eq_true rfl), (Nat.le_of_ble_eq_true rfl)⟩ ⟨rfl, rfl⟩ dJ3_checkIndex_8e157_17
    · skip
      have c_2 := b_nlt (by omega) (by omega) c_2
      exact (by omega : False).elim

def q_z_check3n (T : Nat → ClassId) (j : Nat) (n : Nat) : Option Value → va_W → Prop := fun rr ww => (rr = some (.int (nI j)) ∧ ww = [])
set_option maxHeartbeats 4000000 in
set_option maxRecDepth 100000 in
theorem z_check3n (l : Launch) (D : va_G) (T : Nat → ClassId) (j : Nat) (n : Nat) (h_j : j < n) (h_n : n ≤ 1000) : Ct l yJ3_checkIndex_8e157 cJ3_checkIndex_8e157 3 (some .int) 0 0 0 D T [.int (nI j), .int (nI n), .null] [] (q_z_check3n T j n) := by
  refine Ct.of (cc := cJ3_checkIndex_8e157) (maxL := 3) (ret := (some .int)) (by decide) (Nat.le_of_ble_eq_true rfl) ?_
  intro p e s m args below meth c A ls hC hnm V hl
  obtain ⟨hx, hb, hr, hml, hown, hts, hlocks⟩ := id hC
  generalize hH : s.heap = H at V ⊢
  clear hH
  have hl : lv_has ls 3 [(0, .int (nI j)), (1, .int (nI n)), (2, .null)] := hl
  generalize hlo : ([] : List Loc) = locs at V ⊢
  clear hlo
  refine lv_iload_n hx hb dJ3_checkIndex_8e157_0 rfl (lv_at hl 0 rfl) ?_
  refine lv_if_lt (tgt := 9) hx hb dJ3_checkIndex_8e157_1 (by decide) (fun c_1 => ?_) (fun c_1 => ?_)
  · skip
    rw [show (0 : Int32) = nI 0 from rfl] at c_1
    have c_1 := b_lt (by omega) (by omega) c_1
    exact (by omega : False).elim
  · skip
    rw [show (0 : Int32) = nI 0 from rfl] at c_1
    have c_1 := b_nlt (by omega) (by omega) c_1
    refine lv_iload_n hx hb dJ3_checkIndex_8e157_4 rfl (lv_at hl 0 rfl) ?_
    refine lv_iload_n hx hb dJ3_checkIndex_8e157_5 rfl (lv_at hl 1 rfl) ?_
    refine lv_icmp_lt (tgt := 16) hx hb dJ3_checkIndex_8e157_6 (by decide) (fun c_2 => ?_) (fun c_2 => ?_)
    · skip
      have c_2 := b_lt (by omega) (by omega) c_2
      refine lv_iload_n hx hb dJ3_checkIndex_8e157_16 rfl (lv_at hl 0 rfl) ?_
      exact g_iret (Qr := (q_z_check3n T j n)) hC V ⟨(Nat.le_of_ble_eq_true rfl), (Nat.le_of_ble_eq_true rfl)⟩ ⟨rfl, rfl⟩ dJ3_checkIndex_8e157_17
    · skip
      have c_2 := b_nlt (by omega) (by omega) c_2
      exact (by omega : False).elim

def q_z_check (T : Nat → ClassId) (j : Nat) (n : Nat) : Option Value → va_W → Prop := fun rr ww => (rr = none ∧ ww = [])
set_option maxHeartbeats 4000000 in
set_option maxRecDepth 100000 in
theorem z_check (l : Launch) (D : va_G) (T : Nat → ClassId) (j : Nat) (n : Nat) (h_j : j < n) (h_n : n ≤ 1000) : Ct l yJ0_checkIndex_df160 cJ0_checkIndex_df160 2 none 1 0 0 D T [.int (nI j), .int (nI n)] [] (q_z_check T j n) := by
  refine Ct.ofF (cc := cJ0_checkIndex_df160) (maxL := 2) (ret := none) (by decide +kernel) (Nat.le_of_ble_eq_true rfl) ?_
  intro p e s m args below meth c A ls hC hnm V hl
  obtain ⟨hx, hb, hr, hml, hown, hts, hlocks⟩ := id hC
  generalize hH : s.heap = H at V ⊢
  clear hH
  have hl : lv_has ls 2 [(0, .int (nI j)), (1, .int (nI n))] := hl
  generalize hlo : ([] : List Loc) = locs at V ⊢
  clear hlo
  refine lv_iload_n hx hb dJ0_checkIndex_df160_0 rfl (lv_at hl 0 rfl) ?_
  refine lv_iload_n hx hb dJ0_checkIndex_df160_1 rfl (lv_at hl 1 rfl) ?_
  refine g_sfm hC V w_350 dJ0_checkIndex_df160_2 (fun fmt => ?_) ?_
  · skip
    refine g_callS (wr := []) (nA := 3) hC V hl.1 (z_check3 l D T j n fmt (by first | assumption | omega) (by first | assumption | omega)) w_352 w_353 w_14 w_354 (by decide +kernel) rfl ⟨(Nat.le_of_ble_eq_true rfl), (Nat.le_of_ble_eq_true rfl)⟩ [] [] rfl rfl rfl rfl (by decide) (Nat.le_of_ble_eq_true rfl) dJ0_checkIndex_df160_5 ⟨(Nat.le_of_ble_eq_true rfl), (Nat.le_of_ble_eq_true rfl)⟩ rfl (fun r w1 H locs hQ V => ?_)
    obtain ⟨rfl, rfl⟩ := hQ
    have V : gW D T A s [] H locs := V
    show W p l e _ s m args below meth c H locs _ _ _ (F0 m 8 ls [.int (nI j)])
    refine lv_pop hx hb dJ0_checkIndex_df160_8 rfl ?_
    exact g_vret (Qr := (q_z_check T j n)) hC V ⟨(Nat.le_of_ble_eq_true rfl), (Nat.le_of_ble_eq_true rfl)⟩ ⟨rfl, rfl⟩ dJ0_checkIndex_df160_9
  · skip
    refine g_callS (wr := []) (nA := 3) hC V hl.1 (z_check3n l D T j n (by first | assumption | omega) (by first | assumption | omega)) w_352 w_353 w_14 w_354 (by decide +kernel) rfl ⟨(Nat.le_of_ble_eq_true rfl), (Nat.le_of_ble_eq_true rfl)⟩ [] [] rfl rfl rfl rfl (by decide) (Nat.le_of_ble_eq_true rfl) dJ0_checkIndex_df160_5 ⟨(Nat.le_of_ble_eq_true rfl), (Nat.le_of_ble_eq_true rfl)⟩ rfl (fun r w1 H locs hQ V => ?_)
    obtain ⟨rfl, rfl⟩ := hQ
    have V : gW D T A s [] H locs := V
    show W p l e _ s m args below meth c H locs _ _ _ (F0 m 8 ls [.int (nI j)])
    refine lv_pop hx hb dJ0_checkIndex_df160_8 rfl ?_
    exact g_vret (Qr := (q_z_check T j n)) hC V ⟨(Nat.le_of_ble_eq_true rfl), (Nat.le_of_ble_eq_true rfl)⟩ ⟨rfl, rfl⟩ dJ0_checkIndex_df160_9

def q_z_charAt1 (T : Nat → ClassId) (si : Nat) (j : Nat) : Option Value → va_W → Prop := fun rr ww => (∃ (z : Int32), rr = some (.int z) ∧ ww = [] ∧ z = sch si j)
set_option maxHeartbeats 4000000 in
set_option maxRecDepth 100000 in
theorem z_charAt1 (l : Launch) (D : va_G) (T : Nat → ClassId) (si : Nat) (j : Nat) (h_i : si < 9) (h_j : j < sLen.getD si 0) : Ct l yJ1_charAt_3b067 cJ1_charAt_3b067 2 (some .char) 2 0 0 D T [.ref (D.2 10 si), .int (nI j)] [] (q_z_charAt1 T si j) := by
  refine Ct.of (cc := cJ1_charAt_3b067) (maxL := 2) (ret := (some .char)) (by decide) (Nat.le_of_ble_eq_true rfl) ?_
  intro p e s m args below meth c A ls hC hnm V hl
  obtain ⟨hx, hb, hr, hml, hown, hts, hlocks⟩ := id hC
  generalize hH : s.heap = H at V ⊢
  clear hH
  have hl : lv_has ls 2 [(0, .ref (D.2 10 si)), (1, .int (nI j))] := hl
  generalize hlo : ([] : List Loc) = locs at V ⊢
  clear hlo
  have hsl := slen_le h_i
  refine lv_iload_n hx hb dJ1_charAt_3b067_0 rfl (lv_at hl 1 rfl) ?_
  refine lv_aload_n hx hb dJ1_charAt_3b067_1 rfl (lv_at hl 0 rfl) ?_
  refine g_slen hC V (si := si) (by first | assumption | decide) dJ1_charAt_3b067_2 ?_
  refine g_callS (wr := []) (nA := 2) hC V hl.1 (z_check l D T j (sLen.getD si 0) (by first | assumption | omega) (by first | assumption | omega)) w_347 w_348 w_12 w_349 (by decide +kernel) rfl ⟨(Nat.le_of_ble_eq_true rfl), (Nat.le_of_ble_eq_true rfl)⟩ [] [] rfl rfl rfl rfl (by decide) (Nat.le_of_ble_eq_true rfl) dJ1_charAt_3b067_3 ⟨(Nat.le_of_ble_eq_true rfl), (Nat.le_of_ble_eq_true rfl)⟩ rfl (fun r w1 H locs hQ V => ?_)
  obtain ⟨rfl, rfl⟩ := hQ
  have V : gW D T A s [] H locs := V
  show W p l e _ s m args below meth c H locs _ _ _ (F0 m 6 ls [])
  refine lv_aload_n hx hb dJ1_charAt_3b067_6 rfl (lv_at hl 0 rfl) ?_
  refine lv_iload_n hx hb dJ1_charAt_3b067_7 rfl (lv_at hl 1 rfl) ?_
  refine g_sbyt hC V (si := si) (j := j) (by first | assumption | decide) (by omega) (by omega) dJ1_charAt_3b067_8 ?_
  refine lv_sipush (v := (nI 255)) hx hb dJ1_charAt_3b067_9 (by decide +kernel) ?_
  refine lv_iand hx hb dJ1_charAt_3b067_12 ?_
  refine lv_i2c hx hb dJ1_charAt_3b067_13 rfl ?_
  exact g_nret (Qr := (q_z_charAt1 T si j)) hC V ⟨(Nat.le_of_ble_eq_true rfl), (Nat.le_of_ble_eq_true rfl)⟩ (by first | decide +kernel | exact sch_nar h_i (by omega)) ⟨((((((sByt.getD si []).getD j 0) &&& (nI 255))).toUInt32 % 65536).toInt32), rfl, rfl, rfl⟩ dJ1_charAt_3b067_14

def q_z_charAt (T : Nat → ClassId) (si : Nat) (j : Nat) : Option Value → va_W → Prop := fun rr ww => (∃ (z : Int32), rr = some (.int z) ∧ ww = [] ∧ z = sch si j)
set_option maxHeartbeats 4000000 in
set_option maxRecDepth 100000 in
theorem z_charAt (l : Launch) (D : va_G) (T : Nat → ClassId) (si : Nat) (j : Nat) (h_i : si < 9) (h_j : j < sLen.getD si 0) : Ct l yJ0_charAt_5068e cJ0_charAt_5068e 2 (some .char) 3 0 0 D T [.ref (D.2 9 si), .int (nI j)] [] (q_z_charAt T si j) := by
  refine Ct.ofF (cc := cJ0_charAt_5068e) (maxL := 2) (ret := (some .char)) (by decide +kernel) (Nat.le_of_ble_eq_true rfl) ?_
  intro p e s m args below meth c A ls hC hnm V hl
  obtain ⟨hx, hb, hr, hml, hown, hts, hlocks⟩ := id hC
  generalize hH : s.heap = H at V ⊢
  clear hH
  have hl : lv_has ls 2 [(0, .ref (D.2 9 si)), (1, .int (nI j))] := hl
  generalize hlo : ([] : List Loc) = locs at V ⊢
  clear hlo
  have hsl := slen_le h_i
  refine lv_aload_n hx hb dJ0_charAt_5068e_0 rfl (lv_at hl 0 rfl) ?_
  refine g_callZ (wr := []) (nA := 0) hC V hl.1 (z_isLatin1 l D T si (by first | assumption | omega)) w_340 w_341 w_342 w_12 w_343 (by decide +kernel) rfl ⟨(Nat.le_of_ble_eq_true rfl), (Nat.le_of_ble_eq_true rfl)⟩ (si := si) (by first | assumption | decide) rfl rfl [] [] rfl rfl rfl rfl (by decide) (Nat.le_of_ble_eq_true rfl) dJ0_charAt_5068e_1 ⟨(Nat.le_of_ble_eq_true rfl), (Nat.le_of_ble_eq_true rfl)⟩ rfl (fun r w1 H locs hQ V => ?_)
  obtain ⟨rfl, rfl⟩ := hQ
  have V : gW D T A s [] H locs := V
  show W p l e _ s m args below meth c H locs _ _ _ (F0 m 4 ls [.int (nI 1)])
  refine lv_if_eq (tgt := 16) hx hb dJ0_charAt_5068e_4 (by decide) (fun c => absurd (show (nI 1) = 0 from c) (by decide +kernel)) (fun _ => ?_)
  refine lv_aload_n hx hb dJ0_charAt_5068e_7 rfl (lv_at hl 0 rfl) ?_
  refine g_sval hC V (si := si) (by first | assumption | decide) w_1412 dJ0_charAt_5068e_8 ?_
  refine lv_iload_n hx hb dJ0_charAt_5068e_11 rfl (lv_at hl 1 rfl) ?_
  refine g_callS (wr := []) (nA := 2) hC V hl.1 (z_charAt1 l D T si j (by first | assumption | omega) (by first | assumption | omega)) w_344 w_345 w_13 w_346 (by decide +kernel) rfl ⟨(Nat.le_of_ble_eq_true rfl), (Nat.le_of_ble_eq_true rfl)⟩ [] [] rfl rfl rfl rfl (by decide) (Nat.le_of_ble_eq_true rfl) dJ0_charAt_5068e_12 ⟨(Nat.le_of_ble_eq_true rfl), (Nat.le_of_ble_eq_true rfl)⟩ rfl (fun r w1 H locs hQ V => ?_)
  obtain ⟨z_1, rfl, rfl, f_2⟩ := hQ
  have V : gW D T A s [] H locs := V
  show W p l e _ s m args below meth c H locs _ _ _ (F0 m 15 ls [.int z_1])
  exact g_nret (Qr := (q_z_charAt T si j)) hC V ⟨(Nat.le_of_ble_eq_true rfl), (Nat.le_of_ble_eq_true rfl)⟩ (by first | decide +kernel | exact (by have e : z_1 = sch si j := (by assumption); rw [e]; exact sch_nar h_i (by omega))) ⟨z_1, rfl, rfl, (by first | assumption | omega)⟩ dJ0_charAt_5068e_15

def q_isWithin (T : Nat → ClassId) (v : Int32) (lo : Int32) (hi : Int32) : Option Value → va_W → Prop := fun rr ww => (rr = some (.int (nI 1)) ∧ ww = [] ∧ ¬ v < lo ∧ ¬ hi < v) ∨ (rr = some (.int (nI 0)) ∧ ww = [] ∧ (v < lo ∨ hi < v))
set_option maxHeartbeats 4000000 in
set_option maxRecDepth 100000 in
theorem c_isWithin (l : Launch) (D : va_G) (T : Nat → ClassId) (v : Int32) (lo : Int32) (hi : Int32) : Ct l yX7_isWithin cX7_isWithin 3 (some .boolean) 0 0 0 D T [.int v, .int lo, .int hi] [] (q_isWithin T v lo hi) := by
  refine Ct.of (cc := cX7_isWithin) (maxL := 3) (ret := (some .boolean)) (by decide) (Nat.le_of_ble_eq_true rfl) ?_
  intro p e s m args below meth c A ls hC hnm V hl
  obtain ⟨hx, hb, hr, hml, hown, hts, hlocks⟩ := id hC
  generalize hH : s.heap = H at V ⊢
  clear hH
  have hl : lv_has ls 3 [(0, .int v), (1, .int lo), (2, .int hi)] := hl
  generalize hlo : ([] : List Loc) = locs at V ⊢
  clear hlo
  refine lv_iload_n hx hb dX7_isWithin_0 rfl (lv_at hl 0 rfl) ?_
  refine lv_iload_n hx hb dX7_isWithin_1 rfl (lv_at hl 1 rfl) ?_
  refine lv_icmp_lt (tgt := 14) hx hb dX7_isWithin_2 (by decide) (fun c_1 => ?_) (fun c_1 => ?_)
  · skip
    refine lv_iconst (v := (nI 0)) hx hb dX7_isWithin_14 (by decide +kernel) ?_
    exact g_zret (Qr := (q_isWithin T v lo hi)) hC V ⟨(Nat.le_of_ble_eq_true rfl), (Nat.le_of_ble_eq_true rfl)⟩ (by first | decide +kernel | exact rfl) (.inr ⟨rfl, rfl, (by first | exact Or.inl (by assumption) | exact Or.inr (by assumption))⟩) dX7_isWithin_15
  · skip
    refine lv_iload_n hx hb dX7_isWithin_5 rfl (lv_at hl 0 rfl) ?_
    refine lv_iload_n hx hb dX7_isWithin_6 rfl (lv_at hl 2 rfl) ?_
    refine lv_icmp_gt (tgt := 14) hx hb dX7_isWithin_7 (by decide) (fun c_2 => ?_) (fun c_2 => ?_)
    · skip
      refine lv_iconst (v := (nI 0)) hx hb dX7_isWithin_14 (by decide +kernel) ?_
      exact g_zret (Qr := (q_isWithin T v lo hi)) hC V ⟨(Nat.le_of_ble_eq_true rfl), (Nat.le_of_ble_eq_true rfl)⟩ (by first | decide +kernel | exact rfl) (.inr ⟨rfl, rfl, (by first | exact Or.inl (by assumption) | exact Or.inr (by assumption))⟩) dX7_isWithin_15
    · skip
      refine lv_iconst (v := (nI 1)) hx hb dX7_isWithin_10 (by decide +kernel) ?_
      refine lv_goto (tgt := 15) hx hb dX7_isWithin_11 (by decide) ?_
      exact g_zret (Qr := (q_isWithin T v lo hi)) hC V ⟨(Nat.le_of_ble_eq_true rfl), (Nat.le_of_ble_eq_true rfl)⟩ (by first | decide +kernel | exact rfl) (.inl ⟨rfl, rfl, (by assumption), (by assumption)⟩) dX7_isWithin_15

def q_isRow (T : Nat → ClassId) (v : Int32) : Option Value → va_W → Prop := fun rr ww => (rr = some (.int (nI 1)) ∧ ww = [] ∧ ¬ v < 0 ∧ ¬ nI 4 ≤ v) ∨ (rr = some (.int (nI 0)) ∧ ww = [] ∧ (v < 0 ∨ nI 4 ≤ v))
set_option maxHeartbeats 4000000 in
set_option maxRecDepth 100000 in
theorem c_isRow (l : Launch) (D : va_G) (T : Nat → ClassId) (v : Int32) : Ct l yX7_isRow cX7_isRow 1 (some .boolean) 0 0 0 D T [.int v] [] (q_isRow T v) := by
  refine Ct.of (cc := cX7_isRow) (maxL := 1) (ret := (some .boolean)) (by decide) (Nat.le_of_ble_eq_true rfl) ?_
  intro p e s m args below meth c A ls hC hnm V hl
  obtain ⟨hx, hb, hr, hml, hown, hts, hlocks⟩ := id hC
  generalize hH : s.heap = H at V ⊢
  clear hH
  have hl : lv_has ls 1 [(0, .int v)] := hl
  generalize hlo : ([] : List Loc) = locs at V ⊢
  clear hlo
  refine lv_iload_n hx hb dX7_isRow_0 rfl (lv_at hl 0 rfl) ?_
  refine lv_if_lt (tgt := 13) hx hb dX7_isRow_1 (by decide) (fun c_1 => ?_) (fun c_1 => ?_)
  · skip
    refine lv_iconst (v := (nI 0)) hx hb dX7_isRow_13 (by decide +kernel) ?_
    exact g_zret (Qr := (q_isRow T v)) hC V ⟨(Nat.le_of_ble_eq_true rfl), (Nat.le_of_ble_eq_true rfl)⟩ (by first | decide +kernel | exact rfl) (.inr ⟨rfl, rfl, (by first | exact Or.inl (by assumption) | exact Or.inr (by assumption))⟩) dX7_isRow_14
  · skip
    refine lv_iload_n hx hb dX7_isRow_4 rfl (lv_at hl 0 rfl) ?_
    refine lv_iconst (v := (nI 4)) hx hb dX7_isRow_5 (by decide +kernel) ?_
    refine lv_icmp_ge (tgt := 13) hx hb dX7_isRow_6 (by decide) (fun c_2 => ?_) (fun c_2 => ?_)
    · skip
      refine lv_iconst (v := (nI 0)) hx hb dX7_isRow_13 (by decide +kernel) ?_
      exact g_zret (Qr := (q_isRow T v)) hC V ⟨(Nat.le_of_ble_eq_true rfl), (Nat.le_of_ble_eq_true rfl)⟩ (by first | decide +kernel | exact rfl) (.inr ⟨rfl, rfl, (by first | exact Or.inl (by assumption) | exact Or.inr (by assumption))⟩) dX7_isRow_14
    · skip
      refine lv_iconst (v := (nI 1)) hx hb dX7_isRow_9 (by decide +kernel) ?_
      refine lv_goto (tgt := 14) hx hb dX7_isRow_10 (by decide) ?_
      exact g_zret (Qr := (q_isRow T v)) hC V ⟨(Nat.le_of_ble_eq_true rfl), (Nat.le_of_ble_eq_true rfl)⟩ (by first | decide +kernel | exact rfl) (.inl ⟨rfl, rfl, (by assumption), (by assumption)⟩) dX7_isRow_14

def q_isImage (T : Nat → ClassId) (v : Int32) : Option Value → va_W → Prop := fun rr ww => (rr = some (.int (nI 1)) ∧ ww = [] ∧ ¬ v < 0 ∧ ¬ nI 2 ≤ v) ∨ (rr = some (.int (nI 0)) ∧ ww = [] ∧ (v < 0 ∨ nI 2 ≤ v))
set_option maxHeartbeats 4000000 in
set_option maxRecDepth 100000 in
theorem c_isImage (l : Launch) (D : va_G) (T : Nat → ClassId) (v : Int32) : Ct l yX7_isImage cX7_isImage 1 (some .boolean) 0 0 0 D T [.int v] [] (q_isImage T v) := by
  refine Ct.of (cc := cX7_isImage) (maxL := 1) (ret := (some .boolean)) (by decide) (Nat.le_of_ble_eq_true rfl) ?_
  intro p e s m args below meth c A ls hC hnm V hl
  obtain ⟨hx, hb, hr, hml, hown, hts, hlocks⟩ := id hC
  generalize hH : s.heap = H at V ⊢
  clear hH
  have hl : lv_has ls 1 [(0, .int v)] := hl
  generalize hlo : ([] : List Loc) = locs at V ⊢
  clear hlo
  refine lv_iload_n hx hb dX7_isImage_0 rfl (lv_at hl 0 rfl) ?_
  refine lv_if_lt (tgt := 13) hx hb dX7_isImage_1 (by decide) (fun c_1 => ?_) (fun c_1 => ?_)
  · skip
    refine lv_iconst (v := (nI 0)) hx hb dX7_isImage_13 (by decide +kernel) ?_
    exact g_zret (Qr := (q_isImage T v)) hC V ⟨(Nat.le_of_ble_eq_true rfl), (Nat.le_of_ble_eq_true rfl)⟩ (by first | decide +kernel | exact rfl) (.inr ⟨rfl, rfl, (by first | exact Or.inl (by assumption) | exact Or.inr (by assumption))⟩) dX7_isImage_14
  · skip
    refine lv_iload_n hx hb dX7_isImage_4 rfl (lv_at hl 0 rfl) ?_
    refine lv_iconst (v := (nI 2)) hx hb dX7_isImage_5 (by decide +kernel) ?_
    refine lv_icmp_ge (tgt := 13) hx hb dX7_isImage_6 (by decide) (fun c_2 => ?_) (fun c_2 => ?_)
    · skip
      refine lv_iconst (v := (nI 0)) hx hb dX7_isImage_13 (by decide +kernel) ?_
      exact g_zret (Qr := (q_isImage T v)) hC V ⟨(Nat.le_of_ble_eq_true rfl), (Nat.le_of_ble_eq_true rfl)⟩ (by first | decide +kernel | exact rfl) (.inr ⟨rfl, rfl, (by first | exact Or.inl (by assumption) | exact Or.inr (by assumption))⟩) dX7_isImage_14
    · skip
      refine lv_iconst (v := (nI 1)) hx hb dX7_isImage_9 (by decide +kernel) ?_
      refine lv_goto (tgt := 14) hx hb dX7_isImage_10 (by decide) ?_
      exact g_zret (Qr := (q_isImage T v)) hC V ⟨(Nat.le_of_ble_eq_true rfl), (Nat.le_of_ble_eq_true rfl)⟩ (by first | decide +kernel | exact rfl) (.inl ⟨rfl, rfl, (by assumption), (by assumption)⟩) dX7_isImage_14

def q_isIn (T : Nat → ClassId) (x : Int32) (i : Int32) : Option Value → va_W → Prop := fun rr ww => (rr = some (.int (nI 1)) ∧ ww = []) ∨ (rr = some (.int (nI 0)) ∧ ww = [])
set_option maxHeartbeats 4000000 in
set_option maxRecDepth 100000 in
theorem c_isIn (l : Launch) (D : va_G) (T : Nat → ClassId) (x : Int32) (i : Int32) : Ct l yX7_isIn cX7_isIn 2 (some .boolean) 0 0 0 D T [.int x, .int i] [] (q_isIn T x i) := by
  refine Ct.of (cc := cX7_isIn) (maxL := 2) (ret := (some .boolean)) (by decide) (Nat.le_of_ble_eq_true rfl) ?_
  intro p e s m args below meth c A ls hC hnm V hl
  obtain ⟨hx, hb, hr, hml, hown, hts, hlocks⟩ := id hC
  generalize hH : s.heap = H at V ⊢
  clear hH
  have hl : lv_has ls 2 [(0, .int x), (1, .int i)] := hl
  generalize hlo : ([] : List Loc) = locs at V ⊢
  clear hlo
  refine lv_iload_n hx hb dX7_isIn_0 rfl (lv_at hl 0 rfl) ?_
  refine lv_iload_n hx hb dX7_isIn_1 rfl (lv_at hl 1 rfl) ?_
  refine lv_ishr hx hb dX7_isIn_2 ?_
  refine lv_iconst (v := (nI 1)) hx hb dX7_isIn_3 (by decide +kernel) ?_
  refine lv_iand hx hb dX7_isIn_4 ?_
  refine lv_if_eq (tgt := 12) hx hb dX7_isIn_5 (by decide) (fun c_1 => ?_) (fun c_1 => ?_)
  · skip
    refine lv_iconst (v := (nI 0)) hx hb dX7_isIn_12 (by decide +kernel) ?_
    exact g_zret (Qr := (q_isIn T x i)) hC V ⟨(Nat.le_of_ble_eq_true rfl), (Nat.le_of_ble_eq_true rfl)⟩ (by first | decide +kernel | exact rfl) (.inr ⟨rfl, rfl⟩) dX7_isIn_13
  · skip
    refine lv_iconst (v := (nI 1)) hx hb dX7_isIn_8 (by decide +kernel) ?_
    refine lv_goto (tgt := 13) hx hb dX7_isIn_9 (by decide) ?_
    exact g_zret (Qr := (q_isIn T x i)) hC V ⟨(Nat.le_of_ble_eq_true rfl), (Nat.le_of_ble_eq_true rfl)⟩ (by first | decide +kernel | exact rfl) (.inl ⟨rfl, rfl⟩) dX7_isIn_13

def q_bounded (T : Nat → ClassId) (x : Int32) : Option Value → va_W → Prop := fun rr ww => (∃ (z : Int32), rr = some (.int z) ∧ ww = [])
set_option maxHeartbeats 4000000 in
set_option maxRecDepth 100000 in
theorem c_bounded (l : Launch) (D : va_G) (T : Nat → ClassId) (x : Int32) : Ct l yX7_bounded cX7_bounded 1 (some .int) 1 0 0 D T [.int x] [] (q_bounded T x) := by
  refine Ct.of (cc := cX7_bounded) (maxL := 1) (ret := (some .int)) (by decide) (Nat.le_of_ble_eq_true rfl) ?_
  intro p e s m args below meth c A ls hC hnm V hl
  obtain ⟨hx, hb, hr, hml, hown, hts, hlocks⟩ := id hC
  generalize hH : s.heap = H at V ⊢
  clear hH
  have hl : lv_has ls 1 [(0, .int x)] := hl
  generalize hlo : ([] : List Loc) = locs at V ⊢
  clear hlo
  refine lv_iconst (v := (nI 0)) hx hb dX7_bounded_0 (by decide +kernel) ?_
  refine lv_sipush (v := (nI 200)) hx hb dX7_bounded_1 (by decide +kernel) ?_
  refine lv_iload_n hx hb dX7_bounded_4 rfl (lv_at hl 0 rfl) ?_
  refine va_mmin hx hb (hml.trans hl.1.symm) hown (hts _ w_490) (hts _ w_300) (hts _ w_10) (hts _ w_301) (Nat.le_of_ble_eq_true rfl) (Nat.le_of_ble_eq_true rfl) (Nat.le_of_ble_eq_true rfl) (Nat.le_of_ble_eq_true rfl) dX7_bounded_5 ?_
  refine va_mmax hx hb (hml.trans hl.1.symm) hown (hts _ w_491) (hts _ w_392) (hts _ w_10) (hts _ w_393) (Nat.le_of_ble_eq_true rfl) (Nat.le_of_ble_eq_true rfl) (Nat.le_of_ble_eq_true rfl) (Nat.le_of_ble_eq_true rfl) dX7_bounded_8 ?_
  refine lv_topi (fun x_1 ex_1 => ?_)
  exact g_iret (Qr := (q_bounded T x)) hC V ⟨(Nat.le_of_ble_eq_true rfl), (Nat.le_of_ble_eq_true rfl)⟩ ⟨x_1, rfl, rfl⟩ dX7_bounded_11

def q_bitCount (T : Nat → ClassId) (x : Int32) : Option Value → va_W → Prop := fun rr ww => (∃ (z : Int32), rr = some (.int z) ∧ ww = [])
set_option maxHeartbeats 4000000 in
set_option maxRecDepth 100000 in
theorem c_bitCount (l : Launch) (D : va_G) (T : Nat → ClassId) (x : Int32) : Ct l yJ6_bitCount_0f7a4 cJ6_bitCount_0f7a4 1 (some .int) 0 0 0 D T [.int x] [] (q_bitCount T x) := by
  refine Ct.of (cc := cJ6_bitCount_0f7a4) (maxL := 1) (ret := (some .int)) (by decide) (Nat.le_of_ble_eq_true rfl) ?_
  intro p e s m args below meth c A ls hC hnm V hl
  obtain ⟨hx, hb, hr, hml, hown, hts, hlocks⟩ := id hC
  generalize hH : s.heap = H at V ⊢
  clear hH
  have hl : lv_has ls 1 [(0, .int x)] := hl
  generalize hlo : ([] : List Loc) = locs at V ⊢
  clear hlo
  refine lv_iload_n hx hb dJ6_bitCount_0f7a4_0 rfl (lv_at hl 0 rfl) ?_
  refine lv_iload_n hx hb dJ6_bitCount_0f7a4_1 rfl (lv_at hl 0 rfl) ?_
  refine lv_iconst (v := (nI 1)) hx hb dJ6_bitCount_0f7a4_2 (by decide +kernel) ?_
  refine lv_iushr hx hb dJ6_bitCount_0f7a4_3 rfl ?_
  refine lv_topi (fun x_1 ex_1 => ?_)
  refine lv_ldcw (v := (1431655765)) hx hb hown (hts _ w_663) dJ6_bitCount_0f7a4_4 ?_
  refine g_vi (y := (nI 1431655765)) (by decide +kernel) ?_
  refine lv_iand hx hb dJ6_bitCount_0f7a4_7 ?_
  refine lv_isub hx hb dJ6_bitCount_0f7a4_8 ?_
  refine lv_istore_n (lv' := [(0, .int (x - (x_1 &&& (nI 1431655765))))]) hx hb dJ6_bitCount_0f7a4_9 rfl hl (by decide) rfl (fun ls hl => ?_)
  refine lv_iload_n hx hb dJ6_bitCount_0f7a4_10 rfl (lv_at hl 0 rfl) ?_
  refine lv_ldcw (v := (858993459)) hx hb hown (hts _ w_664) dJ6_bitCount_0f7a4_11 ?_
  refine g_vi (y := (nI 858993459)) (by decide +kernel) ?_
  refine lv_iand hx hb dJ6_bitCount_0f7a4_14 ?_
  refine lv_iload_n hx hb dJ6_bitCount_0f7a4_15 rfl (lv_at hl 0 rfl) ?_
  refine lv_iconst (v := (nI 2)) hx hb dJ6_bitCount_0f7a4_16 (by decide +kernel) ?_
  refine lv_iushr hx hb dJ6_bitCount_0f7a4_17 rfl ?_
  refine lv_topi (fun x_2 ex_2 => ?_)
  refine lv_ldcw (v := (858993459)) hx hb hown (hts _ w_664) dJ6_bitCount_0f7a4_18 ?_
  refine g_vi (y := (nI 858993459)) (by decide +kernel) ?_
  refine lv_iand hx hb dJ6_bitCount_0f7a4_21 ?_
  refine lv_iadd hx hb dJ6_bitCount_0f7a4_22 ?_
  refine lv_topi (fun x_3 ex_3 => ?_)
  refine lv_istore_n (lv' := [(0, .int x_3)]) hx hb dJ6_bitCount_0f7a4_23 rfl hl (by decide) rfl (fun ls hl => ?_)
  refine lv_iload_n hx hb dJ6_bitCount_0f7a4_24 rfl (lv_at hl 0 rfl) ?_
  refine lv_iload_n hx hb dJ6_bitCount_0f7a4_25 rfl (lv_at hl 0 rfl) ?_
  refine lv_iconst (v := (nI 4)) hx hb dJ6_bitCount_0f7a4_26 (by decide +kernel) ?_
  refine lv_iushr hx hb dJ6_bitCount_0f7a4_27 rfl ?_
  refine lv_topi (fun x_4 ex_4 => ?_)
  refine lv_iadd hx hb dJ6_bitCount_0f7a4_28 ?_
  refine lv_ldcw (v := (252645135)) hx hb hown (hts _ w_665) dJ6_bitCount_0f7a4_29 ?_
  refine g_vi (y := (nI 252645135)) (by decide +kernel) ?_
  refine lv_iand hx hb dJ6_bitCount_0f7a4_32 ?_
  refine lv_istore_n (lv' := [(0, .int ((x_3 + x_4) &&& (nI 252645135)))]) hx hb dJ6_bitCount_0f7a4_33 rfl hl (by decide) rfl (fun ls hl => ?_)
  refine lv_iload_n hx hb dJ6_bitCount_0f7a4_34 rfl (lv_at hl 0 rfl) ?_
  refine lv_iload_n hx hb dJ6_bitCount_0f7a4_35 rfl (lv_at hl 0 rfl) ?_
  refine lv_bipush (v := (nI 8)) hx hb dJ6_bitCount_0f7a4_36 (by decide +kernel) ?_
  refine lv_iushr hx hb dJ6_bitCount_0f7a4_38 rfl ?_
  refine lv_topi (fun x_5 ex_5 => ?_)
  refine lv_iadd hx hb dJ6_bitCount_0f7a4_39 ?_
  refine lv_istore_n (lv' := [(0, .int (((x_3 + x_4) &&& (nI 252645135)) + x_5))]) hx hb dJ6_bitCount_0f7a4_40 rfl hl (by decide) rfl (fun ls hl => ?_)
  refine lv_iload_n hx hb dJ6_bitCount_0f7a4_41 rfl (lv_at hl 0 rfl) ?_
  refine lv_iload_n hx hb dJ6_bitCount_0f7a4_42 rfl (lv_at hl 0 rfl) ?_
  refine lv_bipush (v := (nI 16)) hx hb dJ6_bitCount_0f7a4_43 (by decide +kernel) ?_
  refine lv_iushr hx hb dJ6_bitCount_0f7a4_45 rfl ?_
  refine lv_topi (fun x_6 ex_6 => ?_)
  refine lv_iadd hx hb dJ6_bitCount_0f7a4_46 ?_
  refine lv_istore_n (lv' := [(0, .int ((((x_3 + x_4) &&& (nI 252645135)) + x_5) + x_6))]) hx hb dJ6_bitCount_0f7a4_47 rfl hl (by decide) rfl (fun ls hl => ?_)
  refine lv_iload_n hx hb dJ6_bitCount_0f7a4_48 rfl (lv_at hl 0 rfl) ?_
  refine lv_bipush (v := (nI 63)) hx hb dJ6_bitCount_0f7a4_49 (by decide +kernel) ?_
  refine lv_iand hx hb dJ6_bitCount_0f7a4_51 ?_
  exact g_iret (Qr := (q_bitCount T x)) hC V ⟨(Nat.le_of_ble_eq_true rfl), (Nat.le_of_ble_eq_true rfl)⟩ ⟨(((((x_3 + x_4) &&& (nI 252645135)) + x_5) + x_6) &&& (nI 63)), rfl, rfl⟩ dJ6_bitCount_0f7a4_52

def q_s_isSmith (T : Nat → ClassId) (a0 : Nat) (i : Int32) (an : Nat) (am : Int32) (al : Int32) (ao : Int32) (au : Int32) (a1 : Nat) (a2 : Nat) (a3 : Nat) (a4 : Nat) (a5 : Nat) (a6 : Nat) (a7 : Nat) (a8 : Nat) (a9 : Nat) (a10 : Nat) : Option Value → va_W → Prop := fun rr ww => (∃ (j : Nat), rr = some (.int (nI 1)) ∧ ww = [(a0, .inr (5, [.int (nI an), .int am, .int al, .int ao, .int au, .ref a1, .ref a2, .ref a3, .ref a4, .ref a5, .ref a6, .ref a7, .ref a8, .ref a9, .ref a10]))] ∧ i = nI j ∧ j < an) ∨ (rr = some (.int (nI 0)) ∧ ww = [(a0, .inr (5, [.int (nI an), .int am, .int al, .int ao, .int au, .ref a1, .ref a2, .ref a3, .ref a4, .ref a5, .ref a6, .ref a7, .ref a8, .ref a9, .ref a10]))] ∧ (i < 0 ∨ nI an ≤ i))
set_option maxHeartbeats 4000000 in
set_option maxRecDepth 100000 in
theorem s_isSmith (l : Launch) (D : va_G) (T : Nat → ClassId) (a0 : Nat) (i : Int32) (an : Nat) (am : Int32) (al : Int32) (ao : Int32) (au : Int32) (a1 : Nat) (a2 : Nat) (a3 : Nat) (a4 : Nat) (a5 : Nat) (a6 : Nat) (a7 : Nat) (a8 : Nat) (a9 : Nat) (a10 : Nat) (h_n : an ≤ 10) : Ct l yX5_isSmith cX5_isSmith 2 (some .boolean) 0 0 0 D T [.ref a0, .int i] [(a0, .inr (5, [.int (nI an), .int am, .int al, .int ao, .int au, .ref a1, .ref a2, .ref a3, .ref a4, .ref a5, .ref a6, .ref a7, .ref a8, .ref a9, .ref a10]))] (q_s_isSmith T a0 i an am al ao au a1 a2 a3 a4 a5 a6 a7 a8 a9 a10) := by
  refine Ct.of (cc := cX5_isSmith) (maxL := 2) (ret := (some .boolean)) (by decide) (Nat.le_of_ble_eq_true rfl) ?_
  intro p e s m args below meth c A ls hC hnm V hl
  obtain ⟨hx, hb, hr, hml, hown, hts, hlocks⟩ := id hC
  generalize hH : s.heap = H at V ⊢
  clear hH
  have hl : lv_has ls 2 [(0, .ref a0), (1, .int i)] := hl
  generalize hlo : ([] : List Loc) = locs at V ⊢
  clear hlo
  refine lv_iload_n hx hb dX5_isSmith_0 rfl (lv_at hl 1 rfl) ?_
  refine lv_if_lt (tgt := 16) hx hb dX5_isSmith_1 (by decide) (fun c_1 => ?_) (fun c_1 => ?_)
  · skip
    refine lv_iconst (v := (nI 0)) hx hb dX5_isSmith_16 (by decide +kernel) ?_
    exact g_zret (Qr := (q_s_isSmith T a0 i an am al ao au a1 a2 a3 a4 a5 a6 a7 a8 a9 a10)) hC V ⟨(Nat.le_of_ble_eq_true rfl), (Nat.le_of_ble_eq_true rfl)⟩ (by first | decide +kernel | exact rfl) (.inr ⟨rfl, rfl, (by first | exact Or.inl (by assumption) | exact Or.inr (by assumption))⟩) dX5_isSmith_17
  · skip
    refine lv_iload_n hx hb dX5_isSmith_4 rfl (lv_at hl 1 rfl) ?_
    refine lv_aload_n hx hb dX5_isSmith_5 rfl (lv_at hl 0 rfl) ?_
    refine g_get hC V (ci := 5) uwX5 0 rfl rfl 0 (by decide) w_33 rfl rfl dX5_isSmith_6 ?_
    refine lv_icmp_ge (tgt := 16) hx hb dX5_isSmith_9 (by decide) (fun c_2 => ?_) (fun c_2 => ?_)
    · skip
      refine lv_iconst (v := (nI 0)) hx hb dX5_isSmith_16 (by decide +kernel) ?_
      exact g_zret (Qr := (q_s_isSmith T a0 i an am al ao au a1 a2 a3 a4 a5 a6 a7 a8 a9 a10)) hC V ⟨(Nat.le_of_ble_eq_true rfl), (Nat.le_of_ble_eq_true rfl)⟩ (by first | decide +kernel | exact rfl) (.inr ⟨rfl, rfl, (by first | exact Or.inl (by assumption) | exact Or.inr (by assumption))⟩) dX5_isSmith_17
    · skip
      obtain ⟨j, hj, ej⟩ := g_idx (by omega) c_1 c_2
      refine lv_iconst (v := (nI 1)) hx hb dX5_isSmith_12 (by decide +kernel) ?_
      refine lv_goto (tgt := 17) hx hb dX5_isSmith_13 (by decide) ?_
      exact g_zret (Qr := (q_s_isSmith T a0 i an am al ao au a1 a2 a3 a4 a5 a6 a7 a8 a9 a10)) hC V ⟨(Nat.le_of_ble_eq_true rfl), (Nat.le_of_ble_eq_true rfl)⟩ (by first | decide +kernel | exact rfl) (.inl ⟨j, rfl, rfl, ej, hj⟩) dX5_isSmith_17

def q_s_everyone (T : Nat → ClassId) (a0 : Nat) (an : Nat) (am : Int32) (al : Int32) (ao : Int32) (au : Int32) (a1 : Nat) (a2 : Nat) (a3 : Nat) (a4 : Nat) (a5 : Nat) (a6 : Nat) (a7 : Nat) (a8 : Nat) (a9 : Nat) (a10 : Nat) : Option Value → va_W → Prop := fun rr ww => (rr = some (.int (nI (2 ^ an - 1))) ∧ ww = [(a0, .inr (5, [.int (nI an), .int am, .int al, .int ao, .int au, .ref a1, .ref a2, .ref a3, .ref a4, .ref a5, .ref a6, .ref a7, .ref a8, .ref a9, .ref a10]))])
set_option maxHeartbeats 4000000 in
set_option maxRecDepth 100000 in
theorem s_everyone (l : Launch) (D : va_G) (T : Nat → ClassId) (a0 : Nat) (an : Nat) (am : Int32) (al : Int32) (ao : Int32) (au : Int32) (a1 : Nat) (a2 : Nat) (a3 : Nat) (a4 : Nat) (a5 : Nat) (a6 : Nat) (a7 : Nat) (a8 : Nat) (a9 : Nat) (a10 : Nat) (h_n : an ≤ 10) : Ct l yX5_everyone cX5_everyone 1 (some .int) 0 0 0 D T [.ref a0] [(a0, .inr (5, [.int (nI an), .int am, .int al, .int ao, .int au, .ref a1, .ref a2, .ref a3, .ref a4, .ref a5, .ref a6, .ref a7, .ref a8, .ref a9, .ref a10]))] (q_s_everyone T a0 an am al ao au a1 a2 a3 a4 a5 a6 a7 a8 a9 a10) := by
  refine Ct.of (cc := cX5_everyone) (maxL := 1) (ret := (some .int)) (by decide) (Nat.le_of_ble_eq_true rfl) ?_
  intro p e s m args below meth c A ls hC hnm V hl
  obtain ⟨hx, hb, hr, hml, hown, hts, hlocks⟩ := id hC
  generalize hH : s.heap = H at V ⊢
  clear hH
  have hl : lv_has ls 1 [(0, .ref a0)] := hl
  generalize hlo : ([] : List Loc) = locs at V ⊢
  clear hlo
  refine lv_iconst (v := (nI 1)) hx hb dX5_everyone_0 (by decide +kernel) ?_
  refine lv_aload_n hx hb dX5_everyone_1 rfl (lv_at hl 0 rfl) ?_
  refine g_get hC V (ci := 5) uwX5 0 rfl rfl 0 (by decide) w_33 rfl rfl dX5_everyone_2 ?_
  refine lv_ishl hx hb dX5_everyone_5 ?_
  refine g_vi (y := (nI (2 ^ an))) (shl_pow (by omega)) ?_
  refine lv_iconst (v := (nI 1)) hx hb dX5_everyone_6 (by decide +kernel) ?_
  refine lv_isub hx hb dX5_everyone_7 ?_
  refine g_vi (y := (nI (2 ^ an - 1))) (nI_sub (pw10 h_n).1) ?_
  exact g_iret (Qr := (q_s_everyone T a0 an am al ao au a1 a2 a3 a4 a5 a6 a7 a8 a9 a10)) hC V ⟨(Nat.le_of_ble_eq_true rfl), (Nat.le_of_ble_eq_true rfl)⟩ ⟨rfl, rfl⟩ dX5_everyone_8

def q_s_takeFrom (T : Nat → ClassId) (a0 : Nat) (b0 : Nat) (an : Int32) (am : Int32) (al : Int32) (ao : Int32) (au : Int32) (a1 : Nat) (a2 : Nat) (a3 : Nat) (a4 : Nat) (a5 : Nat) (a6 : Nat) (a7 : Nat) (a8 : Nat) (a9 : Nat) (a10 : Nat) (af1 : Nat → Int32) (af2 : Nat → Int32) (af3 : Nat → Int32) (af4 : Nat → Int32) (af5 : Nat → Int32) (af6 : Nat → Int32) (af7 : Nat → Int32) (af8 : Nat → Int32) (af9 : Nat → Int32) (bn : Nat) (bm : Int32) (bl : Int32) (bo : Int32) (bu : Int32) (b1 : Nat) (b2 : Nat) (b3 : Nat) (b4 : Nat) (b5 : Nat) (b6 : Nat) (b7 : Nat) (b8 : Nat) (b9 : Nat) (b10 : Nat) (bf1 : Nat → Int32) (bf2 : Nat → Int32) (bf3 : Nat → Int32) (bf4 : Nat → Int32) (bf5 : Nat → Int32) (bf6 : Nat → Int32) (bf7 : Nat → Int32) (bf8 : Nat → Int32) (bf9 : Nat → Int32) : Option Value → va_W → Prop := fun rr ww => (∃ (g1 : Nat → Int32) (g2 : Nat → Int32) (g3 : Nat → Int32) (g4 : Nat → Int32) (g5 : Nat → Int32) (g6 : Nat → Int32) (g7 : Nat → Int32) (g8 : Nat → Int32) (g9 : Nat → Int32), rr = none ∧ ww = [(a0, .inr (5, [.int (nI bn), .int bm, .int bl, .int bo, .int bu, .ref a1, .ref a2, .ref a3, .ref a4, .ref a5, .ref a6, .ref a7, .ref a8, .ref a9, .ref a10])), (a1, .inl (T 0, 10, .inl g1)), (a2, .inl (T 0, 10, .inl g2)), (a3, .inl (T 0, 10, .inl g3)), (a4, .inl (T 0, 10, .inl g4)), (a5, .inl (T 0, 10, .inl g5)), (a6, .inl (T 0, 10, .inl g6)), (a7, .inl (T 0, 10, .inl g7)), (a8, .inl (T 0, 10, .inl g8)), (a9, .inl (T 0, 10, .inl g9)), (b0, .inr (5, [.int (nI bn), .int bm, .int bl, .int bo, .int bu, .ref b1, .ref b2, .ref b3, .ref b4, .ref b5, .ref b6, .ref b7, .ref b8, .ref b9, .ref b10])), (b1, .inl (T 0, 10, .inl bf1)), (b2, .inl (T 0, 10, .inl bf2)), (b3, .inl (T 0, 10, .inl bf3)), (b4, .inl (T 0, 10, .inl bf4)), (b5, .inl (T 0, 10, .inl bf5)), (b6, .inl (T 0, 10, .inl bf6)), (b7, .inl (T 0, 10, .inl bf7)), (b8, .inl (T 0, 10, .inl bf8)), (b9, .inl (T 0, 10, .inl bf9))] ∧ (∀ i, i < bn → g1 i = bf1 i) ∧ (∀ i, i < bn → g2 i = bf2 i) ∧ (∀ i, i < bn → g3 i = bf3 i) ∧ (∀ i, i < bn → g4 i = bf4 i) ∧ (∀ i, i < bn → g5 i = bf5 i) ∧ (∀ i, i < bn → g6 i = bf6 i) ∧ (∀ i, i < bn → g7 i = bf7 i) ∧ (∀ i, i < bn → g8 i = bf8 i) ∧ (∀ i, i < bn → g9 i = bf9 i))
set_option maxHeartbeats 4000000 in
set_option maxRecDepth 100000 in
theorem s_takeFrom (l : Launch) (D : va_G) (T : Nat → ClassId) (a0 : Nat) (b0 : Nat) (an : Int32) (am : Int32) (al : Int32) (ao : Int32) (au : Int32) (a1 : Nat) (a2 : Nat) (a3 : Nat) (a4 : Nat) (a5 : Nat) (a6 : Nat) (a7 : Nat) (a8 : Nat) (a9 : Nat) (a10 : Nat) (af1 : Nat → Int32) (af2 : Nat → Int32) (af3 : Nat → Int32) (af4 : Nat → Int32) (af5 : Nat → Int32) (af6 : Nat → Int32) (af7 : Nat → Int32) (af8 : Nat → Int32) (af9 : Nat → Int32) (bn : Nat) (bm : Int32) (bl : Int32) (bo : Int32) (bu : Int32) (b1 : Nat) (b2 : Nat) (b3 : Nat) (b4 : Nat) (b5 : Nat) (b6 : Nat) (b7 : Nat) (b8 : Nat) (b9 : Nat) (b10 : Nat) (bf1 : Nat → Int32) (bf2 : Nat → Int32) (bf3 : Nat → Int32) (bf4 : Nat → Int32) (bf5 : Nat → Int32) (bf6 : Nat → Int32) (bf7 : Nat → Int32) (bf8 : Nat → Int32) (bf9 : Nat → Int32) (h_n : bn ≤ 10) : Ct l yX5_takeFrom cX5_takeFrom 3 none 0 0 0 D T [.ref a0, .ref b0] [(a0, .inr (5, [.int an, .int am, .int al, .int ao, .int au, .ref a1, .ref a2, .ref a3, .ref a4, .ref a5, .ref a6, .ref a7, .ref a8, .ref a9, .ref a10])), (a1, .inl (T 0, 10, .inl af1)), (a2, .inl (T 0, 10, .inl af2)), (a3, .inl (T 0, 10, .inl af3)), (a4, .inl (T 0, 10, .inl af4)), (a5, .inl (T 0, 10, .inl af5)), (a6, .inl (T 0, 10, .inl af6)), (a7, .inl (T 0, 10, .inl af7)), (a8, .inl (T 0, 10, .inl af8)), (a9, .inl (T 0, 10, .inl af9)), (b0, .inr (5, [.int (nI bn), .int bm, .int bl, .int bo, .int bu, .ref b1, .ref b2, .ref b3, .ref b4, .ref b5, .ref b6, .ref b7, .ref b8, .ref b9, .ref b10])), (b1, .inl (T 0, 10, .inl bf1)), (b2, .inl (T 0, 10, .inl bf2)), (b3, .inl (T 0, 10, .inl bf3)), (b4, .inl (T 0, 10, .inl bf4)), (b5, .inl (T 0, 10, .inl bf5)), (b6, .inl (T 0, 10, .inl bf6)), (b7, .inl (T 0, 10, .inl bf7)), (b8, .inl (T 0, 10, .inl bf8)), (b9, .inl (T 0, 10, .inl bf9))] (q_s_takeFrom T a0 b0 an am al ao au a1 a2 a3 a4 a5 a6 a7 a8 a9 a10 af1 af2 af3 af4 af5 af6 af7 af8 af9 bn bm bl bo bu b1 b2 b3 b4 b5 b6 b7 b8 b9 b10 bf1 bf2 bf3 bf4 bf5 bf6 bf7 bf8 bf9) := by
  refine Ct.of (cc := cX5_takeFrom) (maxL := 3) (ret := none) (by decide) (Nat.le_of_ble_eq_true rfl) ?_
  intro p e s m args below meth c A ls hC hnm V hl
  obtain ⟨hx, hb, hr, hml, hown, hts, hlocks⟩ := id hC
  generalize hH : s.heap = H at V ⊢
  clear hH
  have hl : lv_has ls 3 [(0, .ref a0), (1, .ref b0)] := hl
  generalize hlo : ([] : List Loc) = locs at V ⊢
  clear hlo
  refine lv_aload_n hx hb dX5_takeFrom_0 rfl (lv_at hl 0 rfl) ?_
  refine lv_aload_n hx hb dX5_takeFrom_1 rfl (lv_at hl 1 rfl) ?_
  refine g_get hC V (ci := 5) uwX5 10 rfl rfl 0 (by decide) w_33 rfl rfl dX5_takeFrom_2 ?_
  refine g_put hC V (ci := 5) uwX5 tyX5 tyX5_ok nmX5 0 rfl rfl 0 (by decide) w_33 rfl rfl rfl rfl (Nat.le_of_ble_eq_true rfl) (ws' := [(a0, .inr (5, [.int (nI bn), .int am, .int al, .int ao, .int au, .ref a1, .ref a2, .ref a3, .ref a4, .ref a5, .ref a6, .ref a7, .ref a8, .ref a9, .ref a10])), (a1, .inl (T 0, 10, .inl af1)), (a2, .inl (T 0, 10, .inl af2)), (a3, .inl (T 0, 10, .inl af3)), (a4, .inl (T 0, 10, .inl af4)), (a5, .inl (T 0, 10, .inl af5)), (a6, .inl (T 0, 10, .inl af6)), (a7, .inl (T 0, 10, .inl af7)), (a8, .inl (T 0, 10, .inl af8)), (a9, .inl (T 0, 10, .inl af9)), (b0, .inr (5, [.int (nI bn), .int bm, .int bl, .int bo, .int bu, .ref b1, .ref b2, .ref b3, .ref b4, .ref b5, .ref b6, .ref b7, .ref b8, .ref b9, .ref b10])), (b1, .inl (T 0, 10, .inl bf1)), (b2, .inl (T 0, 10, .inl bf2)), (b3, .inl (T 0, 10, .inl bf3)), (b4, .inl (T 0, 10, .inl bf4)), (b5, .inl (T 0, 10, .inl bf5)), (b6, .inl (T 0, 10, .inl bf6)), (b7, .inl (T 0, 10, .inl bf7)), (b8, .inl (T 0, 10, .inl bf8)), (b9, .inl (T 0, 10, .inl bf9))]) rfl dX5_takeFrom_5 (fun H locs V => ?_)
  refine lv_aload_n hx hb dX5_takeFrom_8 rfl (lv_at hl 0 rfl) ?_
  refine lv_aload_n hx hb dX5_takeFrom_9 rfl (lv_at hl 1 rfl) ?_
  refine g_get hC V (ci := 5) uwX5 10 rfl rfl 1 (by decide) w_39 rfl rfl dX5_takeFrom_10 ?_
  refine g_put hC V (ci := 5) uwX5 tyX5 tyX5_ok nmX5 0 rfl rfl 1 (by decide) w_39 rfl rfl rfl rfl (Nat.le_of_ble_eq_true rfl) (ws' := [(a0, .inr (5, [.int (nI bn), .int bm, .int al, .int ao, .int au, .ref a1, .ref a2, .ref a3, .ref a4, .ref a5, .ref a6, .ref a7, .ref a8, .ref a9, .ref a10])), (a1, .inl (T 0, 10, .inl af1)), (a2, .inl (T 0, 10, .inl af2)), (a3, .inl (T 0, 10, .inl af3)), (a4, .inl (T 0, 10, .inl af4)), (a5, .inl (T 0, 10, .inl af5)), (a6, .inl (T 0, 10, .inl af6)), (a7, .inl (T 0, 10, .inl af7)), (a8, .inl (T 0, 10, .inl af8)), (a9, .inl (T 0, 10, .inl af9)), (b0, .inr (5, [.int (nI bn), .int bm, .int bl, .int bo, .int bu, .ref b1, .ref b2, .ref b3, .ref b4, .ref b5, .ref b6, .ref b7, .ref b8, .ref b9, .ref b10])), (b1, .inl (T 0, 10, .inl bf1)), (b2, .inl (T 0, 10, .inl bf2)), (b3, .inl (T 0, 10, .inl bf3)), (b4, .inl (T 0, 10, .inl bf4)), (b5, .inl (T 0, 10, .inl bf5)), (b6, .inl (T 0, 10, .inl bf6)), (b7, .inl (T 0, 10, .inl bf7)), (b8, .inl (T 0, 10, .inl bf8)), (b9, .inl (T 0, 10, .inl bf9))]) rfl dX5_takeFrom_13 (fun H locs V => ?_)
  refine lv_aload_n hx hb dX5_takeFrom_16 rfl (lv_at hl 0 rfl) ?_
  refine lv_aload_n hx hb dX5_takeFrom_17 rfl (lv_at hl 1 rfl) ?_
  refine g_get hC V (ci := 5) uwX5 10 rfl rfl 2 (by decide) w_42 rfl rfl dX5_takeFrom_18 ?_
  refine g_put hC V (ci := 5) uwX5 tyX5 tyX5_ok nmX5 0 rfl rfl 2 (by decide) w_42 rfl rfl rfl rfl (Nat.le_of_ble_eq_true rfl) (ws' := [(a0, .inr (5, [.int (nI bn), .int bm, .int bl, .int ao, .int au, .ref a1, .ref a2, .ref a3, .ref a4, .ref a5, .ref a6, .ref a7, .ref a8, .ref a9, .ref a10])), (a1, .inl (T 0, 10, .inl af1)), (a2, .inl (T 0, 10, .inl af2)), (a3, .inl (T 0, 10, .inl af3)), (a4, .inl (T 0, 10, .inl af4)), (a5, .inl (T 0, 10, .inl af5)), (a6, .inl (T 0, 10, .inl af6)), (a7, .inl (T 0, 10, .inl af7)), (a8, .inl (T 0, 10, .inl af8)), (a9, .inl (T 0, 10, .inl af9)), (b0, .inr (5, [.int (nI bn), .int bm, .int bl, .int bo, .int bu, .ref b1, .ref b2, .ref b3, .ref b4, .ref b5, .ref b6, .ref b7, .ref b8, .ref b9, .ref b10])), (b1, .inl (T 0, 10, .inl bf1)), (b2, .inl (T 0, 10, .inl bf2)), (b3, .inl (T 0, 10, .inl bf3)), (b4, .inl (T 0, 10, .inl bf4)), (b5, .inl (T 0, 10, .inl bf5)), (b6, .inl (T 0, 10, .inl bf6)), (b7, .inl (T 0, 10, .inl bf7)), (b8, .inl (T 0, 10, .inl bf8)), (b9, .inl (T 0, 10, .inl bf9))]) rfl dX5_takeFrom_21 (fun H locs V => ?_)
  refine lv_aload_n hx hb dX5_takeFrom_24 rfl (lv_at hl 0 rfl) ?_
  refine lv_aload_n hx hb dX5_takeFrom_25 rfl (lv_at hl 1 rfl) ?_
  refine g_get hC V (ci := 5) uwX5 10 rfl rfl 3 (by decide) w_45 rfl rfl dX5_takeFrom_26 ?_
  refine g_put hC V (ci := 5) uwX5 tyX5 tyX5_ok nmX5 0 rfl rfl 3 (by decide) w_45 rfl rfl rfl rfl (Nat.le_of_ble_eq_true rfl) (ws' := [(a0, .inr (5, [.int (nI bn), .int bm, .int bl, .int bo, .int au, .ref a1, .ref a2, .ref a3, .ref a4, .ref a5, .ref a6, .ref a7, .ref a8, .ref a9, .ref a10])), (a1, .inl (T 0, 10, .inl af1)), (a2, .inl (T 0, 10, .inl af2)), (a3, .inl (T 0, 10, .inl af3)), (a4, .inl (T 0, 10, .inl af4)), (a5, .inl (T 0, 10, .inl af5)), (a6, .inl (T 0, 10, .inl af6)), (a7, .inl (T 0, 10, .inl af7)), (a8, .inl (T 0, 10, .inl af8)), (a9, .inl (T 0, 10, .inl af9)), (b0, .inr (5, [.int (nI bn), .int bm, .int bl, .int bo, .int bu, .ref b1, .ref b2, .ref b3, .ref b4, .ref b5, .ref b6, .ref b7, .ref b8, .ref b9, .ref b10])), (b1, .inl (T 0, 10, .inl bf1)), (b2, .inl (T 0, 10, .inl bf2)), (b3, .inl (T 0, 10, .inl bf3)), (b4, .inl (T 0, 10, .inl bf4)), (b5, .inl (T 0, 10, .inl bf5)), (b6, .inl (T 0, 10, .inl bf6)), (b7, .inl (T 0, 10, .inl bf7)), (b8, .inl (T 0, 10, .inl bf8)), (b9, .inl (T 0, 10, .inl bf9))]) rfl dX5_takeFrom_29 (fun H locs V => ?_)
  refine lv_aload_n hx hb dX5_takeFrom_32 rfl (lv_at hl 0 rfl) ?_
  refine lv_aload_n hx hb dX5_takeFrom_33 rfl (lv_at hl 1 rfl) ?_
  refine g_get hC V (ci := 5) uwX5 10 rfl rfl 4 (by decide) w_49 rfl rfl dX5_takeFrom_34 ?_
  refine g_put hC V (ci := 5) uwX5 tyX5 tyX5_ok nmX5 0 rfl rfl 4 (by decide) w_49 rfl rfl rfl rfl (Nat.le_of_ble_eq_true rfl) (ws' := [(a0, .inr (5, [.int (nI bn), .int bm, .int bl, .int bo, .int bu, .ref a1, .ref a2, .ref a3, .ref a4, .ref a5, .ref a6, .ref a7, .ref a8, .ref a9, .ref a10])), (a1, .inl (T 0, 10, .inl af1)), (a2, .inl (T 0, 10, .inl af2)), (a3, .inl (T 0, 10, .inl af3)), (a4, .inl (T 0, 10, .inl af4)), (a5, .inl (T 0, 10, .inl af5)), (a6, .inl (T 0, 10, .inl af6)), (a7, .inl (T 0, 10, .inl af7)), (a8, .inl (T 0, 10, .inl af8)), (a9, .inl (T 0, 10, .inl af9)), (b0, .inr (5, [.int (nI bn), .int bm, .int bl, .int bo, .int bu, .ref b1, .ref b2, .ref b3, .ref b4, .ref b5, .ref b6, .ref b7, .ref b8, .ref b9, .ref b10])), (b1, .inl (T 0, 10, .inl bf1)), (b2, .inl (T 0, 10, .inl bf2)), (b3, .inl (T 0, 10, .inl bf3)), (b4, .inl (T 0, 10, .inl bf4)), (b5, .inl (T 0, 10, .inl bf5)), (b6, .inl (T 0, 10, .inl bf6)), (b7, .inl (T 0, 10, .inl bf7)), (b8, .inl (T 0, 10, .inl bf8)), (b9, .inl (T 0, 10, .inl bf9))]) rfl dX5_takeFrom_37 (fun H locs V => ?_)
  refine lv_iconst (v := (nI 0)) hx hb dX5_takeFrom_40 (by decide +kernel) ?_
  refine lv_istore_n (lv' := [(2, .int (nI 0)), (0, .ref a0), (1, .ref b0)]) hx hb dX5_takeFrom_41 rfl hl (by decide) rfl (fun ls hl => ?_)
  have L_1 : ∀ (fu : Nat) (k : Nat) (g1 : Nat → Int32) (g2 : Nat → Int32) (g3 : Nat → Int32) (g4 : Nat → Int32) (g5 : Nat → Int32) (g6 : Nat → Int32) (g7 : Nat → Int32) (g8 : Nat → Int32) (g9 : Nat → Int32), k ≤ bn → (∀ i, i < k → g1 i = bf1 i) → (∀ i, i < k → g2 i = bf2 i) → (∀ i, i < k → g3 i = bf3 i) → (∀ i, i < k → g4 i = bf4 i) → (∀ i, i < k → g5 i = bf5 i) → (∀ i, i < k → g6 i = bf6 i) → (∀ i, i < k → g7 i = bf7 i) → (∀ i, i < k → g8 i = bf8 i) → (∀ i, i < k → g9 i = bf9 i) → bn - k < fu → ∀ (H : Heap) (locs : List Loc) (ls : Array Slot), gW D T A s [(a0, .inr (5, [.int (nI bn), .int bm, .int bl, .int bo, .int bu, .ref a1, .ref a2, .ref a3, .ref a4, .ref a5, .ref a6, .ref a7, .ref a8, .ref a9, .ref a10])), (a1, .inl (T 0, 10, .inl g1)), (a2, .inl (T 0, 10, .inl g2)), (a3, .inl (T 0, 10, .inl g3)), (a4, .inl (T 0, 10, .inl g4)), (a5, .inl (T 0, 10, .inl g5)), (a6, .inl (T 0, 10, .inl g6)), (a7, .inl (T 0, 10, .inl g7)), (a8, .inl (T 0, 10, .inl g8)), (a9, .inl (T 0, 10, .inl g9)), (b0, .inr (5, [.int (nI bn), .int bm, .int bl, .int bo, .int bu, .ref b1, .ref b2, .ref b3, .ref b4, .ref b5, .ref b6, .ref b7, .ref b8, .ref b9, .ref b10])), (b1, .inl (T 0, 10, .inl bf1)), (b2, .inl (T 0, 10, .inl bf2)), (b3, .inl (T 0, 10, .inl bf3)), (b4, .inl (T 0, 10, .inl bf4)), (b5, .inl (T 0, 10, .inl bf5)), (b6, .inl (T 0, 10, .inl bf6)), (b7, .inl (T 0, 10, .inl bf7)), (b8, .inl (T 0, 10, .inl bf8)), (b9, .inl (T 0, 10, .inl bf9))] H locs → lv_has ls 3 [(2, .int (nI k)), (0, .ref a0), (1, .ref b0)] → W p l e (rmD 0 0 0) s m args below meth c H locs 0 0 (MQ below (gQ D A (q_s_takeFrom T a0 b0 an am al ao au a1 a2 a3 a4 a5 a6 a7 a8 a9 a10 af1 af2 af3 af4 af5 af6 af7 af8 af9 bn bm bl bo bu b1 b2 b3 b4 b5 b6 b7 b8 b9 b10 bf1 bf2 bf3 bf4 bf5 bf6 bf7 bf8 bf9)) args s 0 0 A) (F0 m 42 ls []) := by
    intro fu_42
    induction fu_42 with
    | zero => intro k g1 g2 g3 g4 g5 g6 g7 g8 g9 hk hc1 hc2 hc3 hc4 hc5 hc6 hc7 hc8 hc9 hmu; exact absurd hmu (Nat.not_lt_zero _)
    | succ fu_42 ih_42 =>
      intro k g1 g2 g3 g4 g5 g6 g7 g8 g9 hk hc1 hc2 hc3 hc4 hc5 hc6 hc7 hc8 hc9 hmu_42 H locs ls V hl
      refine lv_iload_n hx hb dX5_takeFrom_42 rfl (lv_at hl 0 rfl) ?_
      refine lv_aload_n hx hb dX5_takeFrom_43 rfl (lv_at hl 1 rfl) ?_
      refine g_get hC V (ci := 5) uwX5 0 rfl rfl 0 (by decide) w_33 rfl rfl dX5_takeFrom_44 ?_
      refine lv_icmp_ge (tgt := 164) hx hb dX5_takeFrom_47 (by decide) (fun c_2 => ?_) (fun c_2 => ?_)
      · skip
        have c_2 := b_le (by omega) (by omega) c_2
        exact g_vret (Qr := (q_s_takeFrom T a0 b0 an am al ao au a1 a2 a3 a4 a5 a6 a7 a8 a9 a10 af1 af2 af3 af4 af5 af6 af7 af8 af9 bn bm bl bo bu b1 b2 b3 b4 b5 b6 b7 b8 b9 b10 bf1 bf2 bf3 bf4 bf5 bf6 bf7 bf8 bf9)) hC V ⟨(Nat.le_of_ble_eq_true rfl), (Nat.le_of_ble_eq_true rfl)⟩ ⟨g1, g2, g3, g4, g5, g6, g7, g8, g9, rfl, rfl, (fun i h => hc1 i (by omega)), (fun i h => hc2 i (by omega)), (fun i h => hc3 i (by omega)), (fun i h => hc4 i (by omega)), (fun i h => hc5 i (by omega)), (fun i h => hc6 i (by omega)), (fun i h => hc7 i (by omega)), (fun i h => hc8 i (by omega)), (fun i h => hc9 i (by omega))⟩ dX5_takeFrom_164
      · skip
        have c_2 := b_nle (by omega) (by omega) c_2
        refine lv_aload_n hx hb dX5_takeFrom_50 rfl (lv_at hl 1 rfl) ?_
        refine g_get hC V (ci := 5) uwX5 0 rfl rfl 5 (by decide) w_51 rfl rfl dX5_takeFrom_51 ?_
        refine lv_iload_n hx hb dX5_takeFrom_54 rfl (lv_at hl 0 rfl) ?_
        refine lv_aload_n hx hb dX5_takeFrom_55 rfl (lv_at hl 2 rfl) ?_
        refine g_get hC V (ci := 5) uwX5 10 rfl rfl 5 (by decide) w_51 rfl rfl dX5_takeFrom_56 ?_
        refine lv_iload_n hx hb dX5_takeFrom_59 rfl (lv_at hl 0 rfl) ?_
        refine g_iald hC V 11 rfl (vp_in_nI (by omega) (by omega)) (v := (bf1 k)) (congrArg _ (nI_clamp (by omega))) dX5_takeFrom_60 ?_
        refine g_iast hC V 1 rfl (vp_in_nI (by omega) (by omega)) (f' := (upd g1 k (bf1 k))) (by rw [nI_clamp (by omega)]) (ws' := [(a0, .inr (5, [.int (nI bn), .int bm, .int bl, .int bo, .int bu, .ref a1, .ref a2, .ref a3, .ref a4, .ref a5, .ref a6, .ref a7, .ref a8, .ref a9, .ref a10])), (a1, .inl (T 0, 10, .inl (upd g1 k (bf1 k)))), (a2, .inl (T 0, 10, .inl g2)), (a3, .inl (T 0, 10, .inl g3)), (a4, .inl (T 0, 10, .inl g4)), (a5, .inl (T 0, 10, .inl g5)), (a6, .inl (T 0, 10, .inl g6)), (a7, .inl (T 0, 10, .inl g7)), (a8, .inl (T 0, 10, .inl g8)), (a9, .inl (T 0, 10, .inl g9)), (b0, .inr (5, [.int (nI bn), .int bm, .int bl, .int bo, .int bu, .ref b1, .ref b2, .ref b3, .ref b4, .ref b5, .ref b6, .ref b7, .ref b8, .ref b9, .ref b10])), (b1, .inl (T 0, 10, .inl bf1)), (b2, .inl (T 0, 10, .inl bf2)), (b3, .inl (T 0, 10, .inl bf3)), (b4, .inl (T 0, 10, .inl bf4)), (b5, .inl (T 0, 10, .inl bf5)), (b6, .inl (T 0, 10, .inl bf6)), (b7, .inl (T 0, 10, .inl bf7)), (b8, .inl (T 0, 10, .inl bf8)), (b9, .inl (T 0, 10, .inl bf9))]) rfl dX5_takeFrom_61 (fun H locs V => ?_)
        refine lv_aload_n hx hb dX5_takeFrom_62 rfl (lv_at hl 1 rfl) ?_
        refine g_get hC V (ci := 5) uwX5 0 rfl rfl 6 (by decide) w_56 rfl rfl dX5_takeFrom_63 ?_
        refine lv_iload_n hx hb dX5_takeFrom_66 rfl (lv_at hl 0 rfl) ?_
        refine lv_aload_n hx hb dX5_takeFrom_67 rfl (lv_at hl 2 rfl) ?_
        refine g_get hC V (ci := 5) uwX5 10 rfl rfl 6 (by decide) w_56 rfl rfl dX5_takeFrom_68 ?_
        refine lv_iload_n hx hb dX5_takeFrom_71 rfl (lv_at hl 0 rfl) ?_
        refine g_iald hC V 12 rfl (vp_in_nI (by omega) (by omega)) (v := (bf2 k)) (congrArg _ (nI_clamp (by omega))) dX5_takeFrom_72 ?_
        refine g_iast hC V 2 rfl (vp_in_nI (by omega) (by omega)) (f' := (upd g2 k (bf2 k))) (by rw [nI_clamp (by omega)]) (ws' := [(a0, .inr (5, [.int (nI bn), .int bm, .int bl, .int bo, .int bu, .ref a1, .ref a2, .ref a3, .ref a4, .ref a5, .ref a6, .ref a7, .ref a8, .ref a9, .ref a10])), (a1, .inl (T 0, 10, .inl (upd g1 k (bf1 k)))), (a2, .inl (T 0, 10, .inl (upd g2 k (bf2 k)))), (a3, .inl (T 0, 10, .inl g3)), (a4, .inl (T 0, 10, .inl g4)), (a5, .inl (T 0, 10, .inl g5)), (a6, .inl (T 0, 10, .inl g6)), (a7, .inl (T 0, 10, .inl g7)), (a8, .inl (T 0, 10, .inl g8)), (a9, .inl (T 0, 10, .inl g9)), (b0, .inr (5, [.int (nI bn), .int bm, .int bl, .int bo, .int bu, .ref b1, .ref b2, .ref b3, .ref b4, .ref b5, .ref b6, .ref b7, .ref b8, .ref b9, .ref b10])), (b1, .inl (T 0, 10, .inl bf1)), (b2, .inl (T 0, 10, .inl bf2)), (b3, .inl (T 0, 10, .inl bf3)), (b4, .inl (T 0, 10, .inl bf4)), (b5, .inl (T 0, 10, .inl bf5)), (b6, .inl (T 0, 10, .inl bf6)), (b7, .inl (T 0, 10, .inl bf7)), (b8, .inl (T 0, 10, .inl bf8)), (b9, .inl (T 0, 10, .inl bf9))]) rfl dX5_takeFrom_73 (fun H locs V => ?_)
        refine lv_aload_n hx hb dX5_takeFrom_74 rfl (lv_at hl 1 rfl) ?_
        refine g_get hC V (ci := 5) uwX5 0 rfl rfl 7 (by decide) w_62 rfl rfl dX5_takeFrom_75 ?_
        refine lv_iload_n hx hb dX5_takeFrom_78 rfl (lv_at hl 0 rfl) ?_
        refine lv_aload_n hx hb dX5_takeFrom_79 rfl (lv_at hl 2 rfl) ?_
        refine g_get hC V (ci := 5) uwX5 10 rfl rfl 7 (by decide) w_62 rfl rfl dX5_takeFrom_80 ?_
        refine lv_iload_n hx hb dX5_takeFrom_83 rfl (lv_at hl 0 rfl) ?_
        refine g_iald hC V 13 rfl (vp_in_nI (by omega) (by omega)) (v := (bf3 k)) (congrArg _ (nI_clamp (by omega))) dX5_takeFrom_84 ?_
        refine g_iast hC V 3 rfl (vp_in_nI (by omega) (by omega)) (f' := (upd g3 k (bf3 k))) (by rw [nI_clamp (by omega)]) (ws' := [(a0, .inr (5, [.int (nI bn), .int bm, .int bl, .int bo, .int bu, .ref a1, .ref a2, .ref a3, .ref a4, .ref a5, .ref a6, .ref a7, .ref a8, .ref a9, .ref a10])), (a1, .inl (T 0, 10, .inl (upd g1 k (bf1 k)))), (a2, .inl (T 0, 10, .inl (upd g2 k (bf2 k)))), (a3, .inl (T 0, 10, .inl (upd g3 k (bf3 k)))), (a4, .inl (T 0, 10, .inl g4)), (a5, .inl (T 0, 10, .inl g5)), (a6, .inl (T 0, 10, .inl g6)), (a7, .inl (T 0, 10, .inl g7)), (a8, .inl (T 0, 10, .inl g8)), (a9, .inl (T 0, 10, .inl g9)), (b0, .inr (5, [.int (nI bn), .int bm, .int bl, .int bo, .int bu, .ref b1, .ref b2, .ref b3, .ref b4, .ref b5, .ref b6, .ref b7, .ref b8, .ref b9, .ref b10])), (b1, .inl (T 0, 10, .inl bf1)), (b2, .inl (T 0, 10, .inl bf2)), (b3, .inl (T 0, 10, .inl bf3)), (b4, .inl (T 0, 10, .inl bf4)), (b5, .inl (T 0, 10, .inl bf5)), (b6, .inl (T 0, 10, .inl bf6)), (b7, .inl (T 0, 10, .inl bf7)), (b8, .inl (T 0, 10, .inl bf8)), (b9, .inl (T 0, 10, .inl bf9))]) rfl dX5_takeFrom_85 (fun H locs V => ?_)
        refine lv_aload_n hx hb dX5_takeFrom_86 rfl (lv_at hl 1 rfl) ?_
        refine g_get hC V (ci := 5) uwX5 0 rfl rfl 8 (by decide) w_67 rfl rfl dX5_takeFrom_87 ?_
        refine lv_iload_n hx hb dX5_takeFrom_90 rfl (lv_at hl 0 rfl) ?_
        refine lv_aload_n hx hb dX5_takeFrom_91 rfl (lv_at hl 2 rfl) ?_
        refine g_get hC V (ci := 5) uwX5 10 rfl rfl 8 (by decide) w_67 rfl rfl dX5_takeFrom_92 ?_
        refine lv_iload_n hx hb dX5_takeFrom_95 rfl (lv_at hl 0 rfl) ?_
        refine g_iald hC V 14 rfl (vp_in_nI (by omega) (by omega)) (v := (bf4 k)) (congrArg _ (nI_clamp (by omega))) dX5_takeFrom_96 ?_
        refine g_iast hC V 4 rfl (vp_in_nI (by omega) (by omega)) (f' := (upd g4 k (bf4 k))) (by rw [nI_clamp (by omega)]) (ws' := [(a0, .inr (5, [.int (nI bn), .int bm, .int bl, .int bo, .int bu, .ref a1, .ref a2, .ref a3, .ref a4, .ref a5, .ref a6, .ref a7, .ref a8, .ref a9, .ref a10])), (a1, .inl (T 0, 10, .inl (upd g1 k (bf1 k)))), (a2, .inl (T 0, 10, .inl (upd g2 k (bf2 k)))), (a3, .inl (T 0, 10, .inl (upd g3 k (bf3 k)))), (a4, .inl (T 0, 10, .inl (upd g4 k (bf4 k)))), (a5, .inl (T 0, 10, .inl g5)), (a6, .inl (T 0, 10, .inl g6)), (a7, .inl (T 0, 10, .inl g7)), (a8, .inl (T 0, 10, .inl g8)), (a9, .inl (T 0, 10, .inl g9)), (b0, .inr (5, [.int (nI bn), .int bm, .int bl, .int bo, .int bu, .ref b1, .ref b2, .ref b3, .ref b4, .ref b5, .ref b6, .ref b7, .ref b8, .ref b9, .ref b10])), (b1, .inl (T 0, 10, .inl bf1)), (b2, .inl (T 0, 10, .inl bf2)), (b3, .inl (T 0, 10, .inl bf3)), (b4, .inl (T 0, 10, .inl bf4)), (b5, .inl (T 0, 10, .inl bf5)), (b6, .inl (T 0, 10, .inl bf6)), (b7, .inl (T 0, 10, .inl bf7)), (b8, .inl (T 0, 10, .inl bf8)), (b9, .inl (T 0, 10, .inl bf9))]) rfl dX5_takeFrom_97 (fun H locs V => ?_)
        refine lv_aload_n hx hb dX5_takeFrom_98 rfl (lv_at hl 1 rfl) ?_
        refine g_get hC V (ci := 5) uwX5 0 rfl rfl 9 (by decide) w_70 rfl rfl dX5_takeFrom_99 ?_
        refine lv_iload_n hx hb dX5_takeFrom_102 rfl (lv_at hl 0 rfl) ?_
        refine lv_aload_n hx hb dX5_takeFrom_103 rfl (lv_at hl 2 rfl) ?_
        refine g_get hC V (ci := 5) uwX5 10 rfl rfl 9 (by decide) w_70 rfl rfl dX5_takeFrom_104 ?_
        refine lv_iload_n hx hb dX5_takeFrom_107 rfl (lv_at hl 0 rfl) ?_
        refine g_iald hC V 15 rfl (vp_in_nI (by omega) (by omega)) (v := (bf5 k)) (congrArg _ (nI_clamp (by omega))) dX5_takeFrom_108 ?_
        refine g_iast hC V 5 rfl (vp_in_nI (by omega) (by omega)) (f' := (upd g5 k (bf5 k))) (by rw [nI_clamp (by omega)]) (ws' := [(a0, .inr (5, [.int (nI bn), .int bm, .int bl, .int bo, .int bu, .ref a1, .ref a2, .ref a3, .ref a4, .ref a5, .ref a6, .ref a7, .ref a8, .ref a9, .ref a10])), (a1, .inl (T 0, 10, .inl (upd g1 k (bf1 k)))), (a2, .inl (T 0, 10, .inl (upd g2 k (bf2 k)))), (a3, .inl (T 0, 10, .inl (upd g3 k (bf3 k)))), (a4, .inl (T 0, 10, .inl (upd g4 k (bf4 k)))), (a5, .inl (T 0, 10, .inl (upd g5 k (bf5 k)))), (a6, .inl (T 0, 10, .inl g6)), (a7, .inl (T 0, 10, .inl g7)), (a8, .inl (T 0, 10, .inl g8)), (a9, .inl (T 0, 10, .inl g9)), (b0, .inr (5, [.int (nI bn), .int bm, .int bl, .int bo, .int bu, .ref b1, .ref b2, .ref b3, .ref b4, .ref b5, .ref b6, .ref b7, .ref b8, .ref b9, .ref b10])), (b1, .inl (T 0, 10, .inl bf1)), (b2, .inl (T 0, 10, .inl bf2)), (b3, .inl (T 0, 10, .inl bf3)), (b4, .inl (T 0, 10, .inl bf4)), (b5, .inl (T 0, 10, .inl bf5)), (b6, .inl (T 0, 10, .inl bf6)), (b7, .inl (T 0, 10, .inl bf7)), (b8, .inl (T 0, 10, .inl bf8)), (b9, .inl (T 0, 10, .inl bf9))]) rfl dX5_takeFrom_109 (fun H locs V => ?_)
        refine lv_aload_n hx hb dX5_takeFrom_110 rfl (lv_at hl 1 rfl) ?_
        refine g_get hC V (ci := 5) uwX5 0 rfl rfl 10 (by decide) w_74 rfl rfl dX5_takeFrom_111 ?_
        refine lv_iload_n hx hb dX5_takeFrom_114 rfl (lv_at hl 0 rfl) ?_
        refine lv_aload_n hx hb dX5_takeFrom_115 rfl (lv_at hl 2 rfl) ?_
        refine g_get hC V (ci := 5) uwX5 10 rfl rfl 10 (by decide) w_74 rfl rfl dX5_takeFrom_116 ?_
        refine lv_iload_n hx hb dX5_takeFrom_119 rfl (lv_at hl 0 rfl) ?_
        refine g_iald hC V 16 rfl (vp_in_nI (by omega) (by omega)) (v := (bf6 k)) (congrArg _ (nI_clamp (by omega))) dX5_takeFrom_120 ?_
        refine g_iast hC V 6 rfl (vp_in_nI (by omega) (by omega)) (f' := (upd g6 k (bf6 k))) (by rw [nI_clamp (by omega)]) (ws' := [(a0, .inr (5, [.int (nI bn), .int bm, .int bl, .int bo, .int bu, .ref a1, .ref a2, .ref a3, .ref a4, .ref a5, .ref a6, .ref a7, .ref a8, .ref a9, .ref a10])), (a1, .inl (T 0, 10, .inl (upd g1 k (bf1 k)))), (a2, .inl (T 0, 10, .inl (upd g2 k (bf2 k)))), (a3, .inl (T 0, 10, .inl (upd g3 k (bf3 k)))), (a4, .inl (T 0, 10, .inl (upd g4 k (bf4 k)))), (a5, .inl (T 0, 10, .inl (upd g5 k (bf5 k)))), (a6, .inl (T 0, 10, .inl (upd g6 k (bf6 k)))), (a7, .inl (T 0, 10, .inl g7)), (a8, .inl (T 0, 10, .inl g8)), (a9, .inl (T 0, 10, .inl g9)), (b0, .inr (5, [.int (nI bn), .int bm, .int bl, .int bo, .int bu, .ref b1, .ref b2, .ref b3, .ref b4, .ref b5, .ref b6, .ref b7, .ref b8, .ref b9, .ref b10])), (b1, .inl (T 0, 10, .inl bf1)), (b2, .inl (T 0, 10, .inl bf2)), (b3, .inl (T 0, 10, .inl bf3)), (b4, .inl (T 0, 10, .inl bf4)), (b5, .inl (T 0, 10, .inl bf5)), (b6, .inl (T 0, 10, .inl bf6)), (b7, .inl (T 0, 10, .inl bf7)), (b8, .inl (T 0, 10, .inl bf8)), (b9, .inl (T 0, 10, .inl bf9))]) rfl dX5_takeFrom_121 (fun H locs V => ?_)
        refine lv_aload_n hx hb dX5_takeFrom_122 rfl (lv_at hl 1 rfl) ?_
        refine g_get hC V (ci := 5) uwX5 0 rfl rfl 11 (by decide) w_77 rfl rfl dX5_takeFrom_123 ?_
        refine lv_iload_n hx hb dX5_takeFrom_126 rfl (lv_at hl 0 rfl) ?_
        refine lv_aload_n hx hb dX5_takeFrom_127 rfl (lv_at hl 2 rfl) ?_
        refine g_get hC V (ci := 5) uwX5 10 rfl rfl 11 (by decide) w_77 rfl rfl dX5_takeFrom_128 ?_
        refine lv_iload_n hx hb dX5_takeFrom_131 rfl (lv_at hl 0 rfl) ?_
        refine g_iald hC V 17 rfl (vp_in_nI (by omega) (by omega)) (v := (bf7 k)) (congrArg _ (nI_clamp (by omega))) dX5_takeFrom_132 ?_
        refine g_iast hC V 7 rfl (vp_in_nI (by omega) (by omega)) (f' := (upd g7 k (bf7 k))) (by rw [nI_clamp (by omega)]) (ws' := [(a0, .inr (5, [.int (nI bn), .int bm, .int bl, .int bo, .int bu, .ref a1, .ref a2, .ref a3, .ref a4, .ref a5, .ref a6, .ref a7, .ref a8, .ref a9, .ref a10])), (a1, .inl (T 0, 10, .inl (upd g1 k (bf1 k)))), (a2, .inl (T 0, 10, .inl (upd g2 k (bf2 k)))), (a3, .inl (T 0, 10, .inl (upd g3 k (bf3 k)))), (a4, .inl (T 0, 10, .inl (upd g4 k (bf4 k)))), (a5, .inl (T 0, 10, .inl (upd g5 k (bf5 k)))), (a6, .inl (T 0, 10, .inl (upd g6 k (bf6 k)))), (a7, .inl (T 0, 10, .inl (upd g7 k (bf7 k)))), (a8, .inl (T 0, 10, .inl g8)), (a9, .inl (T 0, 10, .inl g9)), (b0, .inr (5, [.int (nI bn), .int bm, .int bl, .int bo, .int bu, .ref b1, .ref b2, .ref b3, .ref b4, .ref b5, .ref b6, .ref b7, .ref b8, .ref b9, .ref b10])), (b1, .inl (T 0, 10, .inl bf1)), (b2, .inl (T 0, 10, .inl bf2)), (b3, .inl (T 0, 10, .inl bf3)), (b4, .inl (T 0, 10, .inl bf4)), (b5, .inl (T 0, 10, .inl bf5)), (b6, .inl (T 0, 10, .inl bf6)), (b7, .inl (T 0, 10, .inl bf7)), (b8, .inl (T 0, 10, .inl bf8)), (b9, .inl (T 0, 10, .inl bf9))]) rfl dX5_takeFrom_133 (fun H locs V => ?_)
        refine lv_aload_n hx hb dX5_takeFrom_134 rfl (lv_at hl 1 rfl) ?_
        refine g_get hC V (ci := 5) uwX5 0 rfl rfl 12 (by decide) w_80 rfl rfl dX5_takeFrom_135 ?_
        refine lv_iload_n hx hb dX5_takeFrom_138 rfl (lv_at hl 0 rfl) ?_
        refine lv_aload_n hx hb dX5_takeFrom_139 rfl (lv_at hl 2 rfl) ?_
        refine g_get hC V (ci := 5) uwX5 10 rfl rfl 12 (by decide) w_80 rfl rfl dX5_takeFrom_140 ?_
        refine lv_iload_n hx hb dX5_takeFrom_143 rfl (lv_at hl 0 rfl) ?_
        refine g_iald hC V 18 rfl (vp_in_nI (by omega) (by omega)) (v := (bf8 k)) (congrArg _ (nI_clamp (by omega))) dX5_takeFrom_144 ?_
        refine g_iast hC V 8 rfl (vp_in_nI (by omega) (by omega)) (f' := (upd g8 k (bf8 k))) (by rw [nI_clamp (by omega)]) (ws' := [(a0, .inr (5, [.int (nI bn), .int bm, .int bl, .int bo, .int bu, .ref a1, .ref a2, .ref a3, .ref a4, .ref a5, .ref a6, .ref a7, .ref a8, .ref a9, .ref a10])), (a1, .inl (T 0, 10, .inl (upd g1 k (bf1 k)))), (a2, .inl (T 0, 10, .inl (upd g2 k (bf2 k)))), (a3, .inl (T 0, 10, .inl (upd g3 k (bf3 k)))), (a4, .inl (T 0, 10, .inl (upd g4 k (bf4 k)))), (a5, .inl (T 0, 10, .inl (upd g5 k (bf5 k)))), (a6, .inl (T 0, 10, .inl (upd g6 k (bf6 k)))), (a7, .inl (T 0, 10, .inl (upd g7 k (bf7 k)))), (a8, .inl (T 0, 10, .inl (upd g8 k (bf8 k)))), (a9, .inl (T 0, 10, .inl g9)), (b0, .inr (5, [.int (nI bn), .int bm, .int bl, .int bo, .int bu, .ref b1, .ref b2, .ref b3, .ref b4, .ref b5, .ref b6, .ref b7, .ref b8, .ref b9, .ref b10])), (b1, .inl (T 0, 10, .inl bf1)), (b2, .inl (T 0, 10, .inl bf2)), (b3, .inl (T 0, 10, .inl bf3)), (b4, .inl (T 0, 10, .inl bf4)), (b5, .inl (T 0, 10, .inl bf5)), (b6, .inl (T 0, 10, .inl bf6)), (b7, .inl (T 0, 10, .inl bf7)), (b8, .inl (T 0, 10, .inl bf8)), (b9, .inl (T 0, 10, .inl bf9))]) rfl dX5_takeFrom_145 (fun H locs V => ?_)
        refine lv_aload_n hx hb dX5_takeFrom_146 rfl (lv_at hl 1 rfl) ?_
        refine g_get hC V (ci := 5) uwX5 0 rfl rfl 13 (by decide) w_82 rfl rfl dX5_takeFrom_147 ?_
        refine lv_iload_n hx hb dX5_takeFrom_150 rfl (lv_at hl 0 rfl) ?_
        refine lv_aload_n hx hb dX5_takeFrom_151 rfl (lv_at hl 2 rfl) ?_
        refine g_get hC V (ci := 5) uwX5 10 rfl rfl 13 (by decide) w_82 rfl rfl dX5_takeFrom_152 ?_
        refine lv_iload_n hx hb dX5_takeFrom_155 rfl (lv_at hl 0 rfl) ?_
        refine g_iald hC V 19 rfl (vp_in_nI (by omega) (by omega)) (v := (bf9 k)) (congrArg _ (nI_clamp (by omega))) dX5_takeFrom_156 ?_
        refine g_iast hC V 9 rfl (vp_in_nI (by omega) (by omega)) (f' := (upd g9 k (bf9 k))) (by rw [nI_clamp (by omega)]) (ws' := [(a0, .inr (5, [.int (nI bn), .int bm, .int bl, .int bo, .int bu, .ref a1, .ref a2, .ref a3, .ref a4, .ref a5, .ref a6, .ref a7, .ref a8, .ref a9, .ref a10])), (a1, .inl (T 0, 10, .inl (upd g1 k (bf1 k)))), (a2, .inl (T 0, 10, .inl (upd g2 k (bf2 k)))), (a3, .inl (T 0, 10, .inl (upd g3 k (bf3 k)))), (a4, .inl (T 0, 10, .inl (upd g4 k (bf4 k)))), (a5, .inl (T 0, 10, .inl (upd g5 k (bf5 k)))), (a6, .inl (T 0, 10, .inl (upd g6 k (bf6 k)))), (a7, .inl (T 0, 10, .inl (upd g7 k (bf7 k)))), (a8, .inl (T 0, 10, .inl (upd g8 k (bf8 k)))), (a9, .inl (T 0, 10, .inl (upd g9 k (bf9 k)))), (b0, .inr (5, [.int (nI bn), .int bm, .int bl, .int bo, .int bu, .ref b1, .ref b2, .ref b3, .ref b4, .ref b5, .ref b6, .ref b7, .ref b8, .ref b9, .ref b10])), (b1, .inl (T 0, 10, .inl bf1)), (b2, .inl (T 0, 10, .inl bf2)), (b3, .inl (T 0, 10, .inl bf3)), (b4, .inl (T 0, 10, .inl bf4)), (b5, .inl (T 0, 10, .inl bf5)), (b6, .inl (T 0, 10, .inl bf6)), (b7, .inl (T 0, 10, .inl bf7)), (b8, .inl (T 0, 10, .inl bf8)), (b9, .inl (T 0, 10, .inl bf9))]) rfl dX5_takeFrom_157 (fun H locs V => ?_)
        refine lv_iinc (v := (nI (k + 1))) (lv' := [(2, .int (nI (k + 1))), (0, .ref a0), (1, .ref b0)]) hx hb dX5_takeFrom_158 hl (k := 0) rfl (nI_1 _) (by decide) rfl (fun ls hl => ?_)
        refine lv_goto (tgt := 42) hx hb dX5_takeFrom_161 (by decide) ?_
        exact ih_42 (k + 1) (upd g1 k (bf1 k)) (upd g2 k (bf2 k)) (upd g3 k (bf3 k)) (upd g4 k (bf4 k)) (upd g5 k (bf5 k)) (upd g6 k (bf6 k)) (upd g7 k (bf7 k)) (upd g8 k (bf8 k)) (upd g9 k (bf9 k)) (by omega) (up_one (p := fun i x => x = bf1 i) hc1 rfl) (up_one (p := fun i x => x = bf2 i) hc2 rfl) (up_one (p := fun i x => x = bf3 i) hc3 rfl) (up_one (p := fun i x => x = bf4 i) hc4 rfl) (up_one (p := fun i x => x = bf5 i) hc5 rfl) (up_one (p := fun i x => x = bf6 i) hc6 rfl) (up_one (p := fun i x => x = bf7 i) hc7 rfl) (up_one (p := fun i x => x = bf8 i) hc8 rfl) (up_one (p := fun i x => x = bf9 i) hc9 rfl) (by omega) _ _ _ V (lv_sub hl [0, 1, 2] rfl)
  exact L_1 _ 0 af1 af2 af3 af4 af5 af6 af7 af8 af9 (by omega) (fun i h => absurd h (Nat.not_lt_zero _)) (fun i h => absurd h (Nat.not_lt_zero _)) (fun i h => absurd h (Nat.not_lt_zero _)) (fun i h => absurd h (Nat.not_lt_zero _)) (fun i h => absurd h (Nat.not_lt_zero _)) (fun i h => absurd h (Nat.not_lt_zero _)) (fun i h => absurd h (Nat.not_lt_zero _)) (fun i h => absurd h (Nat.not_lt_zero _)) (fun i h => absurd h (Nat.not_lt_zero _)) (Nat.lt_succ_self _) _ _ _ V (lv_sub hl [0, 1, 2] rfl)

def q_s_clear (T : Nat → ClassId) (a0 : Nat) (an : Int32) (am : Int32) (al : Int32) (ao : Int32) (au : Int32) (a1 : Nat) (a2 : Nat) (a3 : Nat) (a4 : Nat) (a5 : Nat) (a6 : Nat) (a7 : Nat) (a8 : Nat) (a9 : Nat) (a10 : Nat) : Option Value → va_W → Prop := fun rr ww => (rr = none ∧ ww = [(a0, .inr (5, [.int (nI 0), .int (nI 0), .int (nI 0), .int (nI 20), .int (nI 0), .ref a1, .ref a2, .ref a3, .ref a4, .ref a5, .ref a6, .ref a7, .ref a8, .ref a9, .ref a10]))])
set_option maxHeartbeats 4000000 in
set_option maxRecDepth 100000 in
theorem s_clear (l : Launch) (D : va_G) (T : Nat → ClassId) (a0 : Nat) (an : Int32) (am : Int32) (al : Int32) (ao : Int32) (au : Int32) (a1 : Nat) (a2 : Nat) (a3 : Nat) (a4 : Nat) (a5 : Nat) (a6 : Nat) (a7 : Nat) (a8 : Nat) (a9 : Nat) (a10 : Nat) : Ct l yX5_clear cX5_clear 1 none 0 0 0 D T [.ref a0] [(a0, .inr (5, [.int an, .int am, .int al, .int ao, .int au, .ref a1, .ref a2, .ref a3, .ref a4, .ref a5, .ref a6, .ref a7, .ref a8, .ref a9, .ref a10]))] (q_s_clear T a0 an am al ao au a1 a2 a3 a4 a5 a6 a7 a8 a9 a10) := by
  refine Ct.of (cc := cX5_clear) (maxL := 1) (ret := none) (by decide) (Nat.le_of_ble_eq_true rfl) ?_
  intro p e s m args below meth c A ls hC hnm V hl
  obtain ⟨hx, hb, hr, hml, hown, hts, hlocks⟩ := id hC
  generalize hH : s.heap = H at V ⊢
  clear hH
  have hl : lv_has ls 1 [(0, .ref a0)] := hl
  generalize hlo : ([] : List Loc) = locs at V ⊢
  clear hlo
  refine lv_aload_n hx hb dX5_clear_0 rfl (lv_at hl 0 rfl) ?_
  refine lv_iconst (v := (nI 0)) hx hb dX5_clear_1 (by decide +kernel) ?_
  refine g_put hC V (ci := 5) uwX5 tyX5 tyX5_ok nmX5 0 rfl rfl 0 (by decide) w_33 rfl rfl rfl rfl (Nat.le_of_ble_eq_true rfl) (ws' := [(a0, .inr (5, [.int (nI 0), .int am, .int al, .int ao, .int au, .ref a1, .ref a2, .ref a3, .ref a4, .ref a5, .ref a6, .ref a7, .ref a8, .ref a9, .ref a10]))]) rfl dX5_clear_2 (fun H locs V => ?_)
  refine lv_aload_n hx hb dX5_clear_5 rfl (lv_at hl 0 rfl) ?_
  refine lv_iconst (v := (nI 0)) hx hb dX5_clear_6 (by decide +kernel) ?_
  refine g_put hC V (ci := 5) uwX5 tyX5 tyX5_ok nmX5 0 rfl rfl 1 (by decide) w_39 rfl rfl rfl rfl (Nat.le_of_ble_eq_true rfl) (ws' := [(a0, .inr (5, [.int (nI 0), .int (nI 0), .int al, .int ao, .int au, .ref a1, .ref a2, .ref a3, .ref a4, .ref a5, .ref a6, .ref a7, .ref a8, .ref a9, .ref a10]))]) rfl dX5_clear_7 (fun H locs V => ?_)
  refine lv_aload_n hx hb dX5_clear_10 rfl (lv_at hl 0 rfl) ?_
  refine lv_iconst (v := (nI 0)) hx hb dX5_clear_11 (by decide +kernel) ?_
  refine g_put hC V (ci := 5) uwX5 tyX5 tyX5_ok nmX5 0 rfl rfl 2 (by decide) w_42 rfl rfl rfl rfl (Nat.le_of_ble_eq_true rfl) (ws' := [(a0, .inr (5, [.int (nI 0), .int (nI 0), .int (nI 0), .int ao, .int au, .ref a1, .ref a2, .ref a3, .ref a4, .ref a5, .ref a6, .ref a7, .ref a8, .ref a9, .ref a10]))]) rfl dX5_clear_12 (fun H locs V => ?_)
  refine lv_aload_n hx hb dX5_clear_15 rfl (lv_at hl 0 rfl) ?_
  refine lv_bipush (v := (nI 20)) hx hb dX5_clear_16 (by decide +kernel) ?_
  refine g_put hC V (ci := 5) uwX5 tyX5 tyX5_ok nmX5 0 rfl rfl 3 (by decide) w_45 rfl rfl rfl rfl (Nat.le_of_ble_eq_true rfl) (ws' := [(a0, .inr (5, [.int (nI 0), .int (nI 0), .int (nI 0), .int (nI 20), .int au, .ref a1, .ref a2, .ref a3, .ref a4, .ref a5, .ref a6, .ref a7, .ref a8, .ref a9, .ref a10]))]) rfl dX5_clear_18 (fun H locs V => ?_)
  refine lv_aload_n hx hb dX5_clear_21 rfl (lv_at hl 0 rfl) ?_
  refine lv_iconst (v := (nI 0)) hx hb dX5_clear_22 (by decide +kernel) ?_
  refine g_put hC V (ci := 5) uwX5 tyX5 tyX5_ok nmX5 0 rfl rfl 4 (by decide) w_49 rfl rfl rfl rfl (Nat.le_of_ble_eq_true rfl) (ws' := [(a0, .inr (5, [.int (nI 0), .int (nI 0), .int (nI 0), .int (nI 20), .int (nI 0), .ref a1, .ref a2, .ref a3, .ref a4, .ref a5, .ref a6, .ref a7, .ref a8, .ref a9, .ref a10]))]) rfl dX5_clear_23 (fun H locs V => ?_)
  exact g_vret (Qr := (q_s_clear T a0 an am al ao au a1 a2 a3 a4 a5 a6 a7 a8 a9 a10)) hC V ⟨(Nat.le_of_ble_eq_true rfl), (Nat.le_of_ble_eq_true rfl)⟩ ⟨rfl, rfl⟩ dX5_clear_26

def q_s_beginPiece (T : Nat → ClassId) (a0 : Nat) (j : Nat) (v : Int32) (an : Nat) (am : Int32) (al : Int32) (ao : Int32) (au : Int32) (a1 : Nat) (a2 : Nat) (a3 : Nat) (a4 : Nat) (a5 : Nat) (a6 : Nat) (a7 : Nat) (a8 : Nat) (a9 : Nat) (a10 : Nat) (af6 : Nat → Int32) (af7 : Nat → Int32) (af8 : Nat → Int32) : Option Value → va_W → Prop := fun rr ww => (∃ (g6 : Nat → Int32) (g7 : Nat → Int32) (g8 : Nat → Int32), rr = none ∧ ww = [(a0, .inr (5, [.int (nI an), .int am, .int al, .int ao, .int au, .ref a1, .ref a2, .ref a3, .ref a4, .ref a5, .ref a6, .ref a7, .ref a8, .ref a9, .ref a10])), (a6, .inl (T 0, 10, .inl g6)), (a7, .inl (T 0, 10, .inl g7)), (a8, .inl (T 0, 10, .inl g8))] ∧ g6 = upd af6 j v ∧ g7 = upd af7 j (nI 0) ∧ g8 = upd af8 j (nI 0))
set_option maxHeartbeats 4000000 in
set_option maxRecDepth 100000 in
theorem s_beginPiece (l : Launch) (D : va_G) (T : Nat → ClassId) (a0 : Nat) (j : Nat) (v : Int32) (an : Nat) (am : Int32) (al : Int32) (ao : Int32) (au : Int32) (a1 : Nat) (a2 : Nat) (a3 : Nat) (a4 : Nat) (a5 : Nat) (a6 : Nat) (a7 : Nat) (a8 : Nat) (a9 : Nat) (a10 : Nat) (af6 : Nat → Int32) (af7 : Nat → Int32) (af8 : Nat → Int32) (h_j : j < 10) : Ct l yX5_beginPiece cX5_beginPiece 3 none 0 0 0 D T [.ref a0, .int (nI j), .int v] [(a0, .inr (5, [.int (nI an), .int am, .int al, .int ao, .int au, .ref a1, .ref a2, .ref a3, .ref a4, .ref a5, .ref a6, .ref a7, .ref a8, .ref a9, .ref a10])), (a6, .inl (T 0, 10, .inl af6)), (a7, .inl (T 0, 10, .inl af7)), (a8, .inl (T 0, 10, .inl af8))] (q_s_beginPiece T a0 j v an am al ao au a1 a2 a3 a4 a5 a6 a7 a8 a9 a10 af6 af7 af8) := by
  refine Ct.of (cc := cX5_beginPiece) (maxL := 3) (ret := none) (by decide) (Nat.le_of_ble_eq_true rfl) ?_
  intro p e s m args below meth c A ls hC hnm V hl
  obtain ⟨hx, hb, hr, hml, hown, hts, hlocks⟩ := id hC
  generalize hH : s.heap = H at V ⊢
  clear hH
  have hl : lv_has ls 3 [(0, .ref a0), (1, .int (nI j)), (2, .int v)] := hl
  generalize hlo : ([] : List Loc) = locs at V ⊢
  clear hlo
  refine lv_aload_n hx hb dX5_beginPiece_0 rfl (lv_at hl 0 rfl) ?_
  refine g_get hC V (ci := 5) uwX5 0 rfl rfl 10 (by decide) w_74 rfl rfl dX5_beginPiece_1 ?_
  refine lv_iload_n hx hb dX5_beginPiece_4 rfl (lv_at hl 1 rfl) ?_
  refine lv_iload_n hx hb dX5_beginPiece_5 rfl (lv_at hl 2 rfl) ?_
  refine g_iast hC V 1 rfl (vp_in_nI (by omega) (by omega)) (f' := (upd af6 j v)) (by rw [nI_clamp (by omega)]) (ws' := [(a0, .inr (5, [.int (nI an), .int am, .int al, .int ao, .int au, .ref a1, .ref a2, .ref a3, .ref a4, .ref a5, .ref a6, .ref a7, .ref a8, .ref a9, .ref a10])), (a6, .inl (T 0, 10, .inl (upd af6 j v))), (a7, .inl (T 0, 10, .inl af7)), (a8, .inl (T 0, 10, .inl af8))]) rfl dX5_beginPiece_6 (fun H locs V => ?_)
  refine lv_aload_n hx hb dX5_beginPiece_7 rfl (lv_at hl 0 rfl) ?_
  refine g_get hC V (ci := 5) uwX5 0 rfl rfl 11 (by decide) w_77 rfl rfl dX5_beginPiece_8 ?_
  refine lv_iload_n hx hb dX5_beginPiece_11 rfl (lv_at hl 1 rfl) ?_
  refine lv_iconst (v := (nI 0)) hx hb dX5_beginPiece_12 (by decide +kernel) ?_
  refine g_iast hC V 2 rfl (vp_in_nI (by omega) (by omega)) (f' := (upd af7 j (nI 0))) (by rw [nI_clamp (by omega)]) (ws' := [(a0, .inr (5, [.int (nI an), .int am, .int al, .int ao, .int au, .ref a1, .ref a2, .ref a3, .ref a4, .ref a5, .ref a6, .ref a7, .ref a8, .ref a9, .ref a10])), (a6, .inl (T 0, 10, .inl (upd af6 j v))), (a7, .inl (T 0, 10, .inl (upd af7 j (nI 0)))), (a8, .inl (T 0, 10, .inl af8))]) rfl dX5_beginPiece_13 (fun H locs V => ?_)
  refine lv_aload_n hx hb dX5_beginPiece_14 rfl (lv_at hl 0 rfl) ?_
  refine g_get hC V (ci := 5) uwX5 0 rfl rfl 12 (by decide) w_80 rfl rfl dX5_beginPiece_15 ?_
  refine lv_iload_n hx hb dX5_beginPiece_18 rfl (lv_at hl 1 rfl) ?_
  refine lv_iconst (v := (nI 0)) hx hb dX5_beginPiece_19 (by decide +kernel) ?_
  refine g_iast hC V 3 rfl (vp_in_nI (by omega) (by omega)) (f' := (upd af8 j (nI 0))) (by rw [nI_clamp (by omega)]) (ws' := [(a0, .inr (5, [.int (nI an), .int am, .int al, .int ao, .int au, .ref a1, .ref a2, .ref a3, .ref a4, .ref a5, .ref a6, .ref a7, .ref a8, .ref a9, .ref a10])), (a6, .inl (T 0, 10, .inl (upd af6 j v))), (a7, .inl (T 0, 10, .inl (upd af7 j (nI 0)))), (a8, .inl (T 0, 10, .inl (upd af8 j (nI 0))))]) rfl dX5_beginPiece_20 (fun H locs V => ?_)
  exact g_vret (Qr := (q_s_beginPiece T a0 j v an am al ao au a1 a2 a3 a4 a5 a6 a7 a8 a9 a10 af6 af7 af8)) hC V ⟨(Nat.le_of_ble_eq_true rfl), (Nat.le_of_ble_eq_true rfl)⟩ ⟨(upd af6 j v), (upd af7 j (nI 0)), (upd af8 j (nI 0)), rfl, rfl, rfl, rfl, rfl⟩ dX5_beginPiece_21

def q_s_isDone (T : Nat → ClassId) (a0 : Nat) (j : Nat) (an : Nat) (am : Int32) (al : Int32) (ao : Int32) (au : Int32) (a1 : Nat) (a2 : Nat) (a3 : Nat) (a4 : Nat) (a5 : Nat) (a6 : Nat) (a7 : Nat) (a8 : Nat) (a9 : Nat) (a10 : Nat) (af6 : Nat → Int32) (af7 : Nat → Int32) : Option Value → va_W → Prop := fun rr ww => (rr = some (.int (nI 1)) ∧ ww = [(a0, .inr (5, [.int (nI an), .int am, .int al, .int ao, .int au, .ref a1, .ref a2, .ref a3, .ref a4, .ref a5, .ref a6, .ref a7, .ref a8, .ref a9, .ref a10])), (a6, .inl (T 0, 10, .inl af6)), (a7, .inl (T 0, 10, .inl af7))] ∧ ¬ af7 j < af6 j) ∨ (rr = some (.int (nI 0)) ∧ ww = [(a0, .inr (5, [.int (nI an), .int am, .int al, .int ao, .int au, .ref a1, .ref a2, .ref a3, .ref a4, .ref a5, .ref a6, .ref a7, .ref a8, .ref a9, .ref a10])), (a6, .inl (T 0, 10, .inl af6)), (a7, .inl (T 0, 10, .inl af7))] ∧ af7 j < af6 j)
set_option maxHeartbeats 4000000 in
set_option maxRecDepth 100000 in
theorem s_isDone (l : Launch) (D : va_G) (T : Nat → ClassId) (a0 : Nat) (j : Nat) (an : Nat) (am : Int32) (al : Int32) (ao : Int32) (au : Int32) (a1 : Nat) (a2 : Nat) (a3 : Nat) (a4 : Nat) (a5 : Nat) (a6 : Nat) (a7 : Nat) (a8 : Nat) (a9 : Nat) (a10 : Nat) (af6 : Nat → Int32) (af7 : Nat → Int32) (h_j : j < 10) : Ct l yX5_isDone cX5_isDone 2 (some .boolean) 0 0 0 D T [.ref a0, .int (nI j)] [(a0, .inr (5, [.int (nI an), .int am, .int al, .int ao, .int au, .ref a1, .ref a2, .ref a3, .ref a4, .ref a5, .ref a6, .ref a7, .ref a8, .ref a9, .ref a10])), (a6, .inl (T 0, 10, .inl af6)), (a7, .inl (T 0, 10, .inl af7))] (q_s_isDone T a0 j an am al ao au a1 a2 a3 a4 a5 a6 a7 a8 a9 a10 af6 af7) := by
  refine Ct.of (cc := cX5_isDone) (maxL := 2) (ret := (some .boolean)) (by decide) (Nat.le_of_ble_eq_true rfl) ?_
  intro p e s m args below meth c A ls hC hnm V hl
  obtain ⟨hx, hb, hr, hml, hown, hts, hlocks⟩ := id hC
  generalize hH : s.heap = H at V ⊢
  clear hH
  have hl : lv_has ls 2 [(0, .ref a0), (1, .int (nI j))] := hl
  generalize hlo : ([] : List Loc) = locs at V ⊢
  clear hlo
  refine lv_aload_n hx hb dX5_isDone_0 rfl (lv_at hl 0 rfl) ?_
  refine g_get hC V (ci := 5) uwX5 0 rfl rfl 11 (by decide) w_77 rfl rfl dX5_isDone_1 ?_
  refine lv_iload_n hx hb dX5_isDone_4 rfl (lv_at hl 1 rfl) ?_
  refine g_iald hC V 2 rfl (vp_in_nI (by omega) (by omega)) (v := (af7 j)) (congrArg _ (nI_clamp (by omega))) dX5_isDone_5 ?_
  refine lv_aload_n hx hb dX5_isDone_6 rfl (lv_at hl 0 rfl) ?_
  refine g_get hC V (ci := 5) uwX5 0 rfl rfl 10 (by decide) w_74 rfl rfl dX5_isDone_7 ?_
  refine lv_iload_n hx hb dX5_isDone_10 rfl (lv_at hl 1 rfl) ?_
  refine g_iald hC V 1 rfl (vp_in_nI (by omega) (by omega)) (v := (af6 j)) (congrArg _ (nI_clamp (by omega))) dX5_isDone_11 ?_
  refine lv_icmp_lt (tgt := 19) hx hb dX5_isDone_12 (by decide) (fun c_1 => ?_) (fun c_1 => ?_)
  · skip
    refine lv_iconst (v := (nI 0)) hx hb dX5_isDone_19 (by decide +kernel) ?_
    exact g_zret (Qr := (q_s_isDone T a0 j an am al ao au a1 a2 a3 a4 a5 a6 a7 a8 a9 a10 af6 af7)) hC V ⟨(Nat.le_of_ble_eq_true rfl), (Nat.le_of_ble_eq_true rfl)⟩ (by first | decide +kernel | exact rfl) (.inr ⟨rfl, rfl, (by assumption)⟩) dX5_isDone_20
  · skip
    refine lv_iconst (v := (nI 1)) hx hb dX5_isDone_15 (by decide +kernel) ?_
    refine lv_goto (tgt := 20) hx hb dX5_isDone_16 (by decide) ?_
    exact g_zret (Qr := (q_s_isDone T a0 j an am al ao au a1 a2 a3 a4 a5 a6 a7 a8 a9 a10 af6 af7)) hC V ⟨(Nat.le_of_ble_eq_true rfl), (Nat.le_of_ble_eq_true rfl)⟩ (by first | decide +kernel | exact rfl) (.inl ⟨rfl, rfl, (by assumption)⟩) dX5_isDone_20

def q_s_isWorkableAt (T : Nat → ClassId) (a0 : Nat) (j : Nat) (h : Int32) (an : Nat) (am : Int32) (al : Int32) (ao : Int32) (au : Int32) (a1 : Nat) (a2 : Nat) (a3 : Nat) (a4 : Nat) (a5 : Nat) (a6 : Nat) (a7 : Nat) (a8 : Nat) (a9 : Nat) (a10 : Nat) (af4 : Nat → Int32) (af5 : Nat → Int32) : Option Value → va_W → Prop := fun rr ww => (rr = some (.int (nI 1)) ∧ ww = [(a0, .inr (5, [.int (nI an), .int am, .int al, .int ao, .int au, .ref a1, .ref a2, .ref a3, .ref a4, .ref a5, .ref a6, .ref a7, .ref a8, .ref a9, .ref a10])), (a4, .inl (T 0, 10, .inl af4)), (a5, .inl (T 0, 10, .inl af5))] ∧ ¬ h < af4 j ∧ ¬ af5 j < h) ∨ (rr = some (.int (nI 0)) ∧ ww = [(a0, .inr (5, [.int (nI an), .int am, .int al, .int ao, .int au, .ref a1, .ref a2, .ref a3, .ref a4, .ref a5, .ref a6, .ref a7, .ref a8, .ref a9, .ref a10])), (a4, .inl (T 0, 10, .inl af4)), (a5, .inl (T 0, 10, .inl af5))] ∧ (h < af4 j ∨ af5 j < h))
set_option maxHeartbeats 4000000 in
set_option maxRecDepth 100000 in
theorem s_isWorkableAt (l : Launch) (D : va_G) (T : Nat → ClassId) (a0 : Nat) (j : Nat) (h : Int32) (an : Nat) (am : Int32) (al : Int32) (ao : Int32) (au : Int32) (a1 : Nat) (a2 : Nat) (a3 : Nat) (a4 : Nat) (a5 : Nat) (a6 : Nat) (a7 : Nat) (a8 : Nat) (a9 : Nat) (a10 : Nat) (af4 : Nat → Int32) (af5 : Nat → Int32) (h_j : j < 10) : Ct l yX5_isWorkableAt cX5_isWorkableAt 3 (some .boolean) 0 0 0 D T [.ref a0, .int (nI j), .int h] [(a0, .inr (5, [.int (nI an), .int am, .int al, .int ao, .int au, .ref a1, .ref a2, .ref a3, .ref a4, .ref a5, .ref a6, .ref a7, .ref a8, .ref a9, .ref a10])), (a4, .inl (T 0, 10, .inl af4)), (a5, .inl (T 0, 10, .inl af5))] (q_s_isWorkableAt T a0 j h an am al ao au a1 a2 a3 a4 a5 a6 a7 a8 a9 a10 af4 af5) := by
  refine Ct.of (cc := cX5_isWorkableAt) (maxL := 3) (ret := (some .boolean)) (by decide) (Nat.le_of_ble_eq_true rfl) ?_
  intro p e s m args below meth c A ls hC hnm V hl
  obtain ⟨hx, hb, hr, hml, hown, hts, hlocks⟩ := id hC
  generalize hH : s.heap = H at V ⊢
  clear hH
  have hl : lv_has ls 3 [(0, .ref a0), (1, .int (nI j)), (2, .int h)] := hl
  generalize hlo : ([] : List Loc) = locs at V ⊢
  clear hlo
  refine lv_iload_n hx hb dX5_isWorkableAt_0 rfl (lv_at hl 2 rfl) ?_
  refine lv_aload_n hx hb dX5_isWorkableAt_1 rfl (lv_at hl 0 rfl) ?_
  refine g_get hC V (ci := 5) uwX5 0 rfl rfl 8 (by decide) w_67 rfl rfl dX5_isWorkableAt_2 ?_
  refine lv_iload_n hx hb dX5_isWorkableAt_5 rfl (lv_at hl 1 rfl) ?_
  refine g_iald hC V 1 rfl (vp_in_nI (by omega) (by omega)) (v := (af4 j)) (congrArg _ (nI_clamp (by omega))) dX5_isWorkableAt_6 ?_
  refine lv_icmp_lt (tgt := 24) hx hb dX5_isWorkableAt_7 (by decide) (fun c_1 => ?_) (fun c_1 => ?_)
  · skip
    refine lv_iconst (v := (nI 0)) hx hb dX5_isWorkableAt_24 (by decide +kernel) ?_
    exact g_zret (Qr := (q_s_isWorkableAt T a0 j h an am al ao au a1 a2 a3 a4 a5 a6 a7 a8 a9 a10 af4 af5)) hC V ⟨(Nat.le_of_ble_eq_true rfl), (Nat.le_of_ble_eq_true rfl)⟩ (by first | decide +kernel | exact rfl) (.inr ⟨rfl, rfl, (by first | exact Or.inl (by assumption) | exact Or.inr (by assumption))⟩) dX5_isWorkableAt_25
  · skip
    refine lv_iload_n hx hb dX5_isWorkableAt_10 rfl (lv_at hl 2 rfl) ?_
    refine lv_aload_n hx hb dX5_isWorkableAt_11 rfl (lv_at hl 0 rfl) ?_
    refine g_get hC V (ci := 5) uwX5 0 rfl rfl 9 (by decide) w_70 rfl rfl dX5_isWorkableAt_12 ?_
    refine lv_iload_n hx hb dX5_isWorkableAt_15 rfl (lv_at hl 1 rfl) ?_
    refine g_iald hC V 2 rfl (vp_in_nI (by omega) (by omega)) (v := (af5 j)) (congrArg _ (nI_clamp (by omega))) dX5_isWorkableAt_16 ?_
    refine lv_icmp_gt (tgt := 24) hx hb dX5_isWorkableAt_17 (by decide) (fun c_2 => ?_) (fun c_2 => ?_)
    · skip
      refine lv_iconst (v := (nI 0)) hx hb dX5_isWorkableAt_24 (by decide +kernel) ?_
      exact g_zret (Qr := (q_s_isWorkableAt T a0 j h an am al ao au a1 a2 a3 a4 a5 a6 a7 a8 a9 a10 af4 af5)) hC V ⟨(Nat.le_of_ble_eq_true rfl), (Nat.le_of_ble_eq_true rfl)⟩ (by first | decide +kernel | exact rfl) (.inr ⟨rfl, rfl, (by first | exact Or.inl (by assumption) | exact Or.inr (by assumption))⟩) dX5_isWorkableAt_25
    · skip
      refine lv_iconst (v := (nI 1)) hx hb dX5_isWorkableAt_20 (by decide +kernel) ?_
      refine lv_goto (tgt := 25) hx hb dX5_isWorkableAt_21 (by decide) ?_
      exact g_zret (Qr := (q_s_isWorkableAt T a0 j h an am al ao au a1 a2 a3 a4 a5 a6 a7 a8 a9 a10 af4 af5)) hC V ⟨(Nat.le_of_ble_eq_true rfl), (Nat.le_of_ble_eq_true rfl)⟩ (by first | decide +kernel | exact rfl) (.inl ⟨rfl, rfl, (by assumption), (by assumption)⟩) dX5_isWorkableAt_25

def q_s_canStrike (T : Nat → ClassId) (a0 : Nat) (j : Nat) (an : Nat) (am : Int32) (al : Int32) (ao : Int32) (au : Int32) (a1 : Nat) (a2 : Nat) (a3 : Nat) (a4 : Nat) (a5 : Nat) (a6 : Nat) (a7 : Nat) (a8 : Nat) (a9 : Nat) (a10 : Nat) (af3 : Nat → Int32) (af4 : Nat → Int32) (af5 : Nat → Int32) (af6 : Nat → Int32) (af7 : Nat → Int32) : Option Value → va_W → Prop := fun rr ww => (rr = some (.int (nI 1)) ∧ ww = [(a0, .inr (5, [.int (nI an), .int am, .int al, .int ao, .int au, .ref a1, .ref a2, .ref a3, .ref a4, .ref a5, .ref a6, .ref a7, .ref a8, .ref a9, .ref a10])), (a3, .inl (T 0, 10, .inl af3)), (a4, .inl (T 0, 10, .inl af4)), (a5, .inl (T 0, 10, .inl af5)), (a6, .inl (T 0, 10, .inl af6)), (a7, .inl (T 0, 10, .inl af7))] ∧ af7 j < af6 j ∧ ¬ af3 j < af4 j ∧ ¬ af5 j < af3 j) ∨ (rr = some (.int (nI 0)) ∧ ww = [(a0, .inr (5, [.int (nI an), .int am, .int al, .int ao, .int au, .ref a1, .ref a2, .ref a3, .ref a4, .ref a5, .ref a6, .ref a7, .ref a8, .ref a9, .ref a10])), (a3, .inl (T 0, 10, .inl af3)), (a4, .inl (T 0, 10, .inl af4)), (a5, .inl (T 0, 10, .inl af5)), (a6, .inl (T 0, 10, .inl af6)), (a7, .inl (T 0, 10, .inl af7))] ∧ (¬ af7 j < af6 j ∨ af3 j < af4 j ∨ af5 j < af3 j))
set_option maxHeartbeats 4000000 in
set_option maxRecDepth 100000 in
theorem s_canStrike (l : Launch) (D : va_G) (T : Nat → ClassId) (a0 : Nat) (j : Nat) (an : Nat) (am : Int32) (al : Int32) (ao : Int32) (au : Int32) (a1 : Nat) (a2 : Nat) (a3 : Nat) (a4 : Nat) (a5 : Nat) (a6 : Nat) (a7 : Nat) (a8 : Nat) (a9 : Nat) (a10 : Nat) (af3 : Nat → Int32) (af4 : Nat → Int32) (af5 : Nat → Int32) (af6 : Nat → Int32) (af7 : Nat → Int32) (h_j : j < 10) : Ct l yX5_canStrike cX5_canStrike 2 (some .boolean) 1 0 0 D T [.ref a0, .int (nI j)] [(a0, .inr (5, [.int (nI an), .int am, .int al, .int ao, .int au, .ref a1, .ref a2, .ref a3, .ref a4, .ref a5, .ref a6, .ref a7, .ref a8, .ref a9, .ref a10])), (a3, .inl (T 0, 10, .inl af3)), (a4, .inl (T 0, 10, .inl af4)), (a5, .inl (T 0, 10, .inl af5)), (a6, .inl (T 0, 10, .inl af6)), (a7, .inl (T 0, 10, .inl af7))] (q_s_canStrike T a0 j an am al ao au a1 a2 a3 a4 a5 a6 a7 a8 a9 a10 af3 af4 af5 af6 af7) := by
  refine Ct.of (cc := cX5_canStrike) (maxL := 2) (ret := (some .boolean)) (by decide) (Nat.le_of_ble_eq_true rfl) ?_
  intro p e s m args below meth c A ls hC hnm V hl
  obtain ⟨hx, hb, hr, hml, hown, hts, hlocks⟩ := id hC
  generalize hH : s.heap = H at V ⊢
  clear hH
  have hl : lv_has ls 2 [(0, .ref a0), (1, .int (nI j))] := hl
  generalize hlo : ([] : List Loc) = locs at V ⊢
  clear hlo
  refine lv_aload_n hx hb dX5_canStrike_0 rfl (lv_at hl 0 rfl) ?_
  refine lv_iload_n hx hb dX5_canStrike_1 rfl (lv_at hl 1 rfl) ?_
  refine g_callVU (nA := 1) hC V hl.1 (s_isDone l D T a0 j an am al ao au a1 a2 a3 a4 a5 a6 a7 a8 a9 a10 af6 af7 (by first | assumption | omega)) w_477 w_430 w_431 w_3 w_432 (by decide +kernel) rfl ⟨(Nat.le_of_ble_eq_true rfl), (Nat.le_of_ble_eq_true rfl)⟩ 0 (ci := 5) rfl rfl [0, 4, 5] rfl rfl (Nat.le_of_ble_eq_true rfl) dX5_canStrike_2 ⟨(Nat.le_of_ble_eq_true rfl), (Nat.le_of_ble_eq_true rfl)⟩ rfl (fun r w1 H locs hQ V => ?_)
  rcases hQ with ⟨rfl, rfl, f_1⟩ | ⟨rfl, rfl, f_2⟩
  · have V : gW D T A s [(a0, .inr (5, [.int (nI an), .int am, .int al, .int ao, .int au, .ref a1, .ref a2, .ref a3, .ref a4, .ref a5, .ref a6, .ref a7, .ref a8, .ref a9, .ref a10])), (a3, .inl (T 0, 10, .inl af3)), (a4, .inl (T 0, 10, .inl af4)), (a5, .inl (T 0, 10, .inl af5)), (a6, .inl (T 0, 10, .inl af6)), (a7, .inl (T 0, 10, .inl af7))] H locs := V _ [0, 3, 0] rfl rfl rfl (by decide +kernel) rfl
    show W p l e _ s m args below meth c H locs _ _ _ (F0 m 5 ls [.int (nI 1)])
    refine lv_if_ne (tgt := 26) hx hb dX5_canStrike_5 (by decide) (fun _ => ?_) (fun c => absurd (show (nI 1) = 0 from c) (by decide +kernel))
    refine lv_iconst (v := (nI 0)) hx hb dX5_canStrike_26 (by decide +kernel) ?_
    exact g_zret (Qr := (q_s_canStrike T a0 j an am al ao au a1 a2 a3 a4 a5 a6 a7 a8 a9 a10 af3 af4 af5 af6 af7)) hC V ⟨(Nat.le_of_ble_eq_true rfl), (Nat.le_of_ble_eq_true rfl)⟩ (by first | decide +kernel | exact rfl) (.inr ⟨rfl, rfl, (by first | exact Or.inl (by assumption) | exact Or.inr (by assumption))⟩) dX5_canStrike_27
  · have V : gW D T A s [(a0, .inr (5, [.int (nI an), .int am, .int al, .int ao, .int au, .ref a1, .ref a2, .ref a3, .ref a4, .ref a5, .ref a6, .ref a7, .ref a8, .ref a9, .ref a10])), (a3, .inl (T 0, 10, .inl af3)), (a4, .inl (T 0, 10, .inl af4)), (a5, .inl (T 0, 10, .inl af5)), (a6, .inl (T 0, 10, .inl af6)), (a7, .inl (T 0, 10, .inl af7))] H locs := V _ [0, 3, 0] rfl rfl rfl (by decide +kernel) rfl
    show W p l e _ s m args below meth c H locs _ _ _ (F0 m 5 ls [.int (nI 0)])
    refine lv_if_ne (tgt := 26) hx hb dX5_canStrike_5 (by decide) (fun c => absurd (show (nI 0) = 0 by decide +kernel) c) (fun _ => ?_)
    refine lv_aload_n hx hb dX5_canStrike_8 rfl (lv_at hl 0 rfl) ?_
    refine lv_iload_n hx hb dX5_canStrike_9 rfl (lv_at hl 1 rfl) ?_
    refine lv_aload_n hx hb dX5_canStrike_10 rfl (lv_at hl 0 rfl) ?_
    refine g_get hC V (ci := 5) uwX5 0 rfl rfl 7 (by decide) w_62 rfl rfl dX5_canStrike_11 ?_
    refine lv_iload_n hx hb dX5_canStrike_14 rfl (lv_at hl 1 rfl) ?_
    refine g_iald hC V 1 rfl (vp_in_nI (by omega) (by omega)) (v := (af3 j)) (congrArg _ (nI_clamp (by omega))) dX5_canStrike_15 ?_
    refine g_callVU (nA := 2) hC V hl.1 (s_isWorkableAt l D T a0 j (af3 j) an am al ao au a1 a2 a3 a4 a5 a6 a7 a8 a9 a10 af4 af5 (by first | assumption | omega)) w_478 w_479 w_480 w_3 w_481 (by decide +kernel) rfl ⟨(Nat.le_of_ble_eq_true rfl), (Nat.le_of_ble_eq_true rfl)⟩ 0 (ci := 5) rfl rfl [0, 2, 3] rfl rfl (Nat.le_of_ble_eq_true rfl) dX5_canStrike_16 ⟨(Nat.le_of_ble_eq_true rfl), (Nat.le_of_ble_eq_true rfl)⟩ rfl (fun r w1 H locs hQ V => ?_)
    rcases hQ with ⟨rfl, rfl, f_3, f_4⟩ | ⟨rfl, rfl, f_5⟩
    · have V : gW D T A s [(a0, .inr (5, [.int (nI an), .int am, .int al, .int ao, .int au, .ref a1, .ref a2, .ref a3, .ref a4, .ref a5, .ref a6, .ref a7, .ref a8, .ref a9, .ref a10])), (a3, .inl (T 0, 10, .inl af3)), (a4, .inl (T 0, 10, .inl af4)), (a5, .inl (T 0, 10, .inl af5)), (a6, .inl (T 0, 10, .inl af6)), (a7, .inl (T 0, 10, .inl af7))] H locs := V _ [0, 1, 0] rfl rfl rfl (by decide +kernel) rfl
      show W p l e _ s m args below meth c H locs _ _ _ (F0 m 19 ls [.int (nI 1)])
      refine lv_if_eq (tgt := 26) hx hb dX5_canStrike_19 (by decide) (fun c => absurd (show (nI 1) = 0 from c) (by decide +kernel)) (fun _ => ?_)
      refine lv_iconst (v := (nI 1)) hx hb dX5_canStrike_22 (by decide +kernel) ?_
      refine lv_goto (tgt := 27) hx hb dX5_canStrike_23 (by decide) ?_
      exact g_zret (Qr := (q_s_canStrike T a0 j an am al ao au a1 a2 a3 a4 a5 a6 a7 a8 a9 a10 af3 af4 af5 af6 af7)) hC V ⟨(Nat.le_of_ble_eq_true rfl), (Nat.le_of_ble_eq_true rfl)⟩ (by first | decide +kernel | exact rfl) (.inl ⟨rfl, rfl, (by assumption), (by assumption), (by assumption)⟩) dX5_canStrike_27
    · have V : gW D T A s [(a0, .inr (5, [.int (nI an), .int am, .int al, .int ao, .int au, .ref a1, .ref a2, .ref a3, .ref a4, .ref a5, .ref a6, .ref a7, .ref a8, .ref a9, .ref a10])), (a3, .inl (T 0, 10, .inl af3)), (a4, .inl (T 0, 10, .inl af4)), (a5, .inl (T 0, 10, .inl af5)), (a6, .inl (T 0, 10, .inl af6)), (a7, .inl (T 0, 10, .inl af7))] H locs := V _ [0, 1, 0] rfl rfl rfl (by decide +kernel) rfl
      show W p l e _ s m args below meth c H locs _ _ _ (F0 m 19 ls [.int (nI 0)])
      refine lv_if_eq (tgt := 26) hx hb dX5_canStrike_19 (by decide) (fun _ => ?_) (fun c => absurd (show (nI 0) = 0 by decide +kernel) c)
      refine lv_iconst (v := (nI 0)) hx hb dX5_canStrike_26 (by decide +kernel) ?_
      exact g_zret (Qr := (q_s_canStrike T a0 j an am al ao au a1 a2 a3 a4 a5 a6 a7 a8 a9 a10 af3 af4 af5 af6 af7)) hC V ⟨(Nat.le_of_ble_eq_true rfl), (Nat.le_of_ble_eq_true rfl)⟩ (by first | decide +kernel | exact rfl) (.inr ⟨rfl, rfl, (by first | exact Or.inl (by assumption) | exact Or.inr (by assumption))⟩) dX5_canStrike_27

def q_s_blastOn (T : Nat → ClassId) (a0 : Nat) (fi : Int32) (pl : Int32) (an : Nat) (am : Int32) (al : Int32) (ao : Int32) (au : Int32) (a1 : Nat) (a2 : Nat) (a3 : Nat) (a4 : Nat) (a5 : Nat) (a6 : Nat) (a7 : Nat) (a8 : Nat) (a9 : Nat) (a10 : Nat) (af1 : Nat → Int32) (af9 : Nat → Int32) : Option Value → va_W → Prop := fun rr ww => (∃ (z : Int32), rr = some (.int z) ∧ ww = [(a0, .inr (5, [.int (nI an), .int am, .int al, .int ao, .int au, .ref a1, .ref a2, .ref a3, .ref a4, .ref a5, .ref a6, .ref a7, .ref a8, .ref a9, .ref a10])), (a1, .inl (T 0, 10, .inl af1)), (a9, .inl (T 0, 10, .inl af9))])
set_option maxHeartbeats 4000000 in
set_option maxRecDepth 100000 in
theorem s_blastOn (l : Launch) (D : va_G) (T : Nat → ClassId) (a0 : Nat) (fi : Int32) (pl : Int32) (an : Nat) (am : Int32) (al : Int32) (ao : Int32) (au : Int32) (a1 : Nat) (a2 : Nat) (a3 : Nat) (a4 : Nat) (a5 : Nat) (a6 : Nat) (a7 : Nat) (a8 : Nat) (a9 : Nat) (a10 : Nat) (af1 : Nat → Int32) (af9 : Nat → Int32) (h_n : an ≤ 10) : Ct l yX5_blastOn cX5_blastOn 5 (some .int) 1 0 0 D T [.ref a0, .int fi, .int pl] [(a0, .inr (5, [.int (nI an), .int am, .int al, .int ao, .int au, .ref a1, .ref a2, .ref a3, .ref a4, .ref a5, .ref a6, .ref a7, .ref a8, .ref a9, .ref a10])), (a1, .inl (T 0, 10, .inl af1)), (a9, .inl (T 0, 10, .inl af9))] (q_s_blastOn T a0 fi pl an am al ao au a1 a2 a3 a4 a5 a6 a7 a8 a9 a10 af1 af9) := by
  refine Ct.of (cc := cX5_blastOn) (maxL := 5) (ret := (some .int)) (by decide) (Nat.le_of_ble_eq_true rfl) ?_
  intro p e s m args below meth c A ls hC hnm V hl
  obtain ⟨hx, hb, hr, hml, hown, hts, hlocks⟩ := id hC
  generalize hH : s.heap = H at V ⊢
  clear hH
  have hl : lv_has ls 5 [(0, .ref a0), (1, .int fi), (2, .int pl)] := hl
  generalize hlo : ([] : List Loc) = locs at V ⊢
  clear hlo
  refine lv_iconst (v := (nI 0)) hx hb dX5_blastOn_0 (by decide +kernel) ?_
  refine lv_istore_n (lv' := [(3, .int (nI 0)), (0, .ref a0), (1, .int fi), (2, .int pl)]) hx hb dX5_blastOn_1 rfl hl (by decide) rfl (fun ls hl => ?_)
  refine lv_iconst (v := (nI 0)) hx hb dX5_blastOn_2 (by decide +kernel) ?_
  refine lv_istore (lv' := [(4, .int (nI 0)), (3, .int (nI 0)), (0, .ref a0), (1, .int fi), (2, .int pl)]) hx hb dX5_blastOn_3 hl (by decide) rfl (fun ls hl => ?_)
  have L_1 : ∀ (fu : Nat) (k5 : Nat) (x5_3 : Int32), k5 ≤ an → an - k5 < fu → ∀ (H : Heap) (locs : List Loc) (ls : Array Slot), gW D T A s [(a0, .inr (5, [.int (nI an), .int am, .int al, .int ao, .int au, .ref a1, .ref a2, .ref a3, .ref a4, .ref a5, .ref a6, .ref a7, .ref a8, .ref a9, .ref a10])), (a1, .inl (T 0, 10, .inl af1)), (a9, .inl (T 0, 10, .inl af9))] H locs → lv_has ls 5 [(4, .int (nI k5)), (3, .int x5_3), (0, .ref a0), (1, .int fi), (2, .int pl)] → W p l e (rmD 1 0 0) s m args below meth c H locs 0 0 (MQ below (gQ D A (q_s_blastOn T a0 fi pl an am al ao au a1 a2 a3 a4 a5 a6 a7 a8 a9 a10 af1 af9)) args s 0 0 A) (F0 m 5 ls []) := by
    intro fu_5
    induction fu_5 with
    | zero => intro k5 x5_3 hk5 hmu; exact absurd hmu (Nat.not_lt_zero _)
    | succ fu_5 ih_5 =>
      intro k5 x5_3 hk5 hmu_5 H locs ls V hl
      refine lv_iload hx hb dX5_blastOn_5 (lv_at hl 0 rfl) ?_
      refine lv_aload_n hx hb dX5_blastOn_7 rfl (lv_at hl 2 rfl) ?_
      refine g_get hC V (ci := 5) uwX5 0 rfl rfl 0 (by decide) w_33 rfl rfl dX5_blastOn_8 ?_
      refine lv_icmp_ge (tgt := 50) hx hb dX5_blastOn_11 (by decide) (fun c_2 => ?_) (fun c_2 => ?_)
      · skip
        have c_2 := b_le (by omega) (by omega) c_2
        refine lv_iload_n hx hb dX5_blastOn_50 rfl (lv_at hl 1 rfl) ?_
        exact g_iret (Qr := (q_s_blastOn T a0 fi pl an am al ao au a1 a2 a3 a4 a5 a6 a7 a8 a9 a10 af1 af9)) hC V ⟨(Nat.le_of_ble_eq_true rfl), (Nat.le_of_ble_eq_true rfl)⟩ ⟨x5_3, rfl, rfl⟩ dX5_blastOn_51
      · skip
        have c_2 := b_nle (by omega) (by omega) c_2
        refine lv_aload_n hx hb dX5_blastOn_14 rfl (lv_at hl 2 rfl) ?_
        refine g_get hC V (ci := 5) uwX5 0 rfl rfl 13 (by decide) w_82 rfl rfl dX5_blastOn_15 ?_
        refine lv_iload hx hb dX5_blastOn_18 (lv_at hl 0 rfl) ?_
        refine g_iald hC V 2 rfl (vp_in_nI (by omega) (by omega)) (v := (af9 k5)) (congrArg _ (nI_clamp (by omega))) dX5_blastOn_20 ?_
        refine lv_iload_n hx hb dX5_blastOn_21 rfl (lv_at hl 3 rfl) ?_
        refine lv_icmp_ne (tgt := 44) hx hb dX5_blastOn_22 (by decide) (fun c_3 => ?_) (fun c_3 => ?_)
        · skip
          refine lv_iinc (v := (nI (k5 + 1))) (lv' := [(4, .int (nI (k5 + 1))), (3, .int x5_3), (0, .ref a0), (1, .int fi), (2, .int pl)]) hx hb dX5_blastOn_44 hl (k := 0) rfl (nI_1 _) (by decide) rfl (fun ls hl => ?_)
          refine lv_goto (tgt := 5) hx hb dX5_blastOn_47 (by decide) ?_
          exact ih_5 (k5 + 1) x5_3 (by omega) (by omega) _ _ _ V (lv_sub hl [0, 1, 2, 3, 4] rfl)
        · skip
          refine lv_iload_n hx hb dX5_blastOn_25 rfl (lv_at hl 4 rfl) ?_
          refine lv_iload hx hb dX5_blastOn_26 (lv_at hl 0 rfl) ?_
          refine g_callSNU (nA := 2) (host := RX7) hC V hl.1 (c_isIn l D T pl (nI k5)) w_472 (List.mem_of_getElem? (i := 13) rfl) w_2 w_471 (by decide +kernel) rfl ⟨(Nat.le_of_ble_eq_true rfl), (Nat.le_of_ble_eq_true rfl)⟩ [] rfl rfl (Nat.le_of_ble_eq_true rfl) dX5_blastOn_28 ⟨(Nat.le_of_ble_eq_true rfl), (Nat.le_of_ble_eq_true rfl)⟩ rfl (fun r w1 H locs hQ V => ?_)
          rcases hQ with ⟨rfl, rfl⟩ | ⟨rfl, rfl⟩
          · have V : gW D T A s [(a0, .inr (5, [.int (nI an), .int am, .int al, .int ao, .int au, .ref a1, .ref a2, .ref a3, .ref a4, .ref a5, .ref a6, .ref a7, .ref a8, .ref a9, .ref a10])), (a1, .inl (T 0, 10, .inl af1)), (a9, .inl (T 0, 10, .inl af9))] H locs := V _ [] rfl rfl rfl (by decide +kernel) rfl
            show W p l e _ s m args below meth c H locs _ _ _ (F0 m 31 ls [.int (nI 1)])
            refine lv_if_eq (tgt := 44) hx hb dX5_blastOn_31 (by decide) (fun c => absurd (show (nI 1) = 0 from c) (by decide +kernel)) (fun _ => ?_)
            refine lv_iload_n hx hb dX5_blastOn_34 rfl (lv_at hl 1 rfl) ?_
            refine lv_aload_n hx hb dX5_blastOn_35 rfl (lv_at hl 2 rfl) ?_
            refine g_get hC V (ci := 5) uwX5 0 rfl rfl 5 (by decide) w_51 rfl rfl dX5_blastOn_36 ?_
            refine lv_iload hx hb dX5_blastOn_39 (lv_at hl 0 rfl) ?_
            refine g_iald hC V 1 rfl (vp_in_nI (by omega) (by omega)) (v := (af1 k5)) (congrArg _ (nI_clamp (by omega))) dX5_blastOn_41 ?_
            refine lv_iadd hx hb dX5_blastOn_42 ?_
            refine lv_istore_n (lv' := [(3, .int (x5_3 + (af1 k5))), (4, .int (nI k5)), (0, .ref a0), (1, .int fi), (2, .int pl)]) hx hb dX5_blastOn_43 rfl hl (by decide) rfl (fun ls hl => ?_)
            refine lv_iinc (v := (nI (k5 + 1))) (lv' := [(4, .int (nI (k5 + 1))), (3, .int (x5_3 + (af1 k5))), (0, .ref a0), (1, .int fi), (2, .int pl)]) hx hb dX5_blastOn_44 hl (k := 1) rfl (nI_1 _) (by decide) rfl (fun ls hl => ?_)
            refine lv_goto (tgt := 5) hx hb dX5_blastOn_47 (by decide) ?_
            exact ih_5 (k5 + 1) (x5_3 + (af1 k5)) (by omega) (by omega) _ _ _ V (lv_sub hl [0, 1, 2, 3, 4] rfl)
          · have V : gW D T A s [(a0, .inr (5, [.int (nI an), .int am, .int al, .int ao, .int au, .ref a1, .ref a2, .ref a3, .ref a4, .ref a5, .ref a6, .ref a7, .ref a8, .ref a9, .ref a10])), (a1, .inl (T 0, 10, .inl af1)), (a9, .inl (T 0, 10, .inl af9))] H locs := V _ [] rfl rfl rfl (by decide +kernel) rfl
            show W p l e _ s m args below meth c H locs _ _ _ (F0 m 31 ls [.int (nI 0)])
            refine lv_if_eq (tgt := 44) hx hb dX5_blastOn_31 (by decide) (fun _ => ?_) (fun c => absurd (show (nI 0) = 0 by decide +kernel) c)
            refine lv_iinc (v := (nI (k5 + 1))) (lv' := [(4, .int (nI (k5 + 1))), (3, .int x5_3), (0, .ref a0), (1, .int fi), (2, .int pl)]) hx hb dX5_blastOn_44 hl (k := 0) rfl (nI_1 _) (by decide) rfl (fun ls hl => ?_)
            refine lv_goto (tgt := 5) hx hb dX5_blastOn_47 (by decide) ?_
            exact ih_5 (k5 + 1) x5_3 (by omega) (by omega) _ _ _ V (lv_sub hl [0, 1, 2, 3, 4] rfl)
  exact L_1 _ 0 (nI 0) (by omega) (Nat.lt_succ_self _) _ _ _ V (lv_sub hl [0, 1, 2, 3, 4] rfl)

def q_s_piecesDone (T : Nat → ClassId) (a0 : Nat) (an : Nat) (am : Int32) (al : Int32) (ao : Int32) (au : Int32) (a1 : Nat) (a2 : Nat) (a3 : Nat) (a4 : Nat) (a5 : Nat) (a6 : Nat) (a7 : Nat) (a8 : Nat) (a9 : Nat) (a10 : Nat) (af6 : Nat → Int32) (af7 : Nat → Int32) : Option Value → va_W → Prop := fun rr ww => (∃ (z : Int32), rr = some (.int z) ∧ ww = [(a0, .inr (5, [.int (nI an), .int am, .int al, .int ao, .int au, .ref a1, .ref a2, .ref a3, .ref a4, .ref a5, .ref a6, .ref a7, .ref a8, .ref a9, .ref a10])), (a6, .inl (T 0, 10, .inl af6)), (a7, .inl (T 0, 10, .inl af7))])
set_option maxHeartbeats 4000000 in
set_option maxRecDepth 100000 in
theorem s_piecesDone (l : Launch) (D : va_G) (T : Nat → ClassId) (a0 : Nat) (an : Nat) (am : Int32) (al : Int32) (ao : Int32) (au : Int32) (a1 : Nat) (a2 : Nat) (a3 : Nat) (a4 : Nat) (a5 : Nat) (a6 : Nat) (a7 : Nat) (a8 : Nat) (a9 : Nat) (a10 : Nat) (af6 : Nat → Int32) (af7 : Nat → Int32) (h_n : an ≤ 10) : Ct l yX5_piecesDone cX5_piecesDone 3 (some .int) 1 0 0 D T [.ref a0] [(a0, .inr (5, [.int (nI an), .int am, .int al, .int ao, .int au, .ref a1, .ref a2, .ref a3, .ref a4, .ref a5, .ref a6, .ref a7, .ref a8, .ref a9, .ref a10])), (a6, .inl (T 0, 10, .inl af6)), (a7, .inl (T 0, 10, .inl af7))] (q_s_piecesDone T a0 an am al ao au a1 a2 a3 a4 a5 a6 a7 a8 a9 a10 af6 af7) := by
  refine Ct.of (cc := cX5_piecesDone) (maxL := 3) (ret := (some .int)) (by decide) (Nat.le_of_ble_eq_true rfl) ?_
  intro p e s m args below meth c A ls hC hnm V hl
  obtain ⟨hx, hb, hr, hml, hown, hts, hlocks⟩ := id hC
  generalize hH : s.heap = H at V ⊢
  clear hH
  have hl : lv_has ls 3 [(0, .ref a0)] := hl
  generalize hlo : ([] : List Loc) = locs at V ⊢
  clear hlo
  refine lv_iconst (v := (nI 0)) hx hb dX5_piecesDone_0 (by decide +kernel) ?_
  refine lv_istore_n (lv' := [(1, .int (nI 0)), (0, .ref a0)]) hx hb dX5_piecesDone_1 rfl hl (by decide) rfl (fun ls hl => ?_)
  refine lv_iconst (v := (nI 0)) hx hb dX5_piecesDone_2 (by decide +kernel) ?_
  refine lv_istore_n (lv' := [(2, .int (nI 0)), (1, .int (nI 0)), (0, .ref a0)]) hx hb dX5_piecesDone_3 rfl hl (by decide) rfl (fun ls hl => ?_)
  have L_1 : ∀ (fu : Nat) (k4 : Nat) (x4_1 : Int32), k4 ≤ an → an - k4 < fu → ∀ (H : Heap) (locs : List Loc) (ls : Array Slot), gW D T A s [(a0, .inr (5, [.int (nI an), .int am, .int al, .int ao, .int au, .ref a1, .ref a2, .ref a3, .ref a4, .ref a5, .ref a6, .ref a7, .ref a8, .ref a9, .ref a10])), (a6, .inl (T 0, 10, .inl af6)), (a7, .inl (T 0, 10, .inl af7))] H locs → lv_has ls 3 [(2, .int (nI k4)), (1, .int x4_1), (0, .ref a0)] → W p l e (rmD 1 0 0) s m args below meth c H locs 0 0 (MQ below (gQ D A (q_s_piecesDone T a0 an am al ao au a1 a2 a3 a4 a5 a6 a7 a8 a9 a10 af6 af7)) args s 0 0 A) (F0 m 4 ls []) := by
    intro fu_4
    induction fu_4 with
    | zero => intro k4 x4_1 hk4 hmu; exact absurd hmu (Nat.not_lt_zero _)
    | succ fu_4 ih_4 =>
      intro k4 x4_1 hk4 hmu_4 H locs ls V hl
      refine lv_iload_n hx hb dX5_piecesDone_4 rfl (lv_at hl 0 rfl) ?_
      refine lv_aload_n hx hb dX5_piecesDone_5 rfl (lv_at hl 2 rfl) ?_
      refine g_get hC V (ci := 5) uwX5 0 rfl rfl 0 (by decide) w_33 rfl rfl dX5_piecesDone_6 ?_
      refine lv_icmp_ge (tgt := 34) hx hb dX5_piecesDone_9 (by decide) (fun c_2 => ?_) (fun c_2 => ?_)
      · skip
        have c_2 := b_le (by omega) (by omega) c_2
        refine lv_iload_n hx hb dX5_piecesDone_34 rfl (lv_at hl 1 rfl) ?_
        exact g_iret (Qr := (q_s_piecesDone T a0 an am al ao au a1 a2 a3 a4 a5 a6 a7 a8 a9 a10 af6 af7)) hC V ⟨(Nat.le_of_ble_eq_true rfl), (Nat.le_of_ble_eq_true rfl)⟩ ⟨x4_1, rfl, rfl⟩ dX5_piecesDone_35
      · skip
        have c_2 := b_nle (by omega) (by omega) c_2
        refine lv_iload_n hx hb dX5_piecesDone_12 rfl (lv_at hl 1 rfl) ?_
        refine lv_aload_n hx hb dX5_piecesDone_13 rfl (lv_at hl 2 rfl) ?_
        refine lv_iload_n hx hb dX5_piecesDone_14 rfl (lv_at hl 0 rfl) ?_
        refine g_callV (wr := []) (nA := 1) hC V hl.1 (s_isDone l D T a0 k4 an am al ao au a1 a2 a3 a4 a5 a6 a7 a8 a9 a10 af6 af7 (by first | assumption | omega)) w_477 w_430 w_431 w_3 w_432 (by decide +kernel) rfl ⟨(Nat.le_of_ble_eq_true rfl), (Nat.le_of_ble_eq_true rfl)⟩ 0 (ci := 5) rfl rfl [0, 1, 2] [] rfl rfl rfl rfl (by decide) (Nat.le_of_ble_eq_true rfl) dX5_piecesDone_15 ⟨(Nat.le_of_ble_eq_true rfl), (Nat.le_of_ble_eq_true rfl)⟩ rfl (fun r w1 H locs hQ V => ?_)
        rcases hQ with ⟨rfl, rfl, f_3⟩ | ⟨rfl, rfl, f_4⟩
        · have V : gW D T A s [(a0, .inr (5, [.int (nI an), .int am, .int al, .int ao, .int au, .ref a1, .ref a2, .ref a3, .ref a4, .ref a5, .ref a6, .ref a7, .ref a8, .ref a9, .ref a10])), (a6, .inl (T 0, 10, .inl af6)), (a7, .inl (T 0, 10, .inl af7))] H locs := V
          show W p l e _ s m args below meth c H locs _ _ _ (F0 m 18 ls [.int (nI 1), .int x4_1])
          refine lv_if_eq (tgt := 25) hx hb dX5_piecesDone_18 (by decide) (fun c => absurd (show (nI 1) = 0 from c) (by decide +kernel)) (fun _ => ?_)
          refine lv_iconst (v := (nI 1)) hx hb dX5_piecesDone_21 (by decide +kernel) ?_
          refine lv_goto (tgt := 26) hx hb dX5_piecesDone_22 (by decide) ?_
          refine lv_iadd hx hb dX5_piecesDone_26 ?_
          refine lv_istore_n (lv' := [(1, .int (x4_1 + (nI 1))), (2, .int (nI k4)), (0, .ref a0)]) hx hb dX5_piecesDone_27 rfl hl (by decide) rfl (fun ls hl => ?_)
          refine lv_iinc (v := (nI (k4 + 1))) (lv' := [(2, .int (nI (k4 + 1))), (1, .int (x4_1 + (nI 1))), (0, .ref a0)]) hx hb dX5_piecesDone_28 hl (k := 1) rfl (nI_1 _) (by decide) rfl (fun ls hl => ?_)
          refine lv_goto (tgt := 4) hx hb dX5_piecesDone_31 (by decide) ?_
          exact ih_4 (k4 + 1) (x4_1 + (nI 1)) (by omega) (by omega) _ _ _ V (lv_sub hl [0, 1, 2] rfl)
        · have V : gW D T A s [(a0, .inr (5, [.int (nI an), .int am, .int al, .int ao, .int au, .ref a1, .ref a2, .ref a3, .ref a4, .ref a5, .ref a6, .ref a7, .ref a8, .ref a9, .ref a10])), (a6, .inl (T 0, 10, .inl af6)), (a7, .inl (T 0, 10, .inl af7))] H locs := V
          show W p l e _ s m args below meth c H locs _ _ _ (F0 m 18 ls [.int (nI 0), .int x4_1])
          refine lv_if_eq (tgt := 25) hx hb dX5_piecesDone_18 (by decide) (fun _ => ?_) (fun c => absurd (show (nI 0) = 0 by decide +kernel) c)
          refine lv_iconst (v := (nI 0)) hx hb dX5_piecesDone_25 (by decide +kernel) ?_
          refine lv_iadd hx hb dX5_piecesDone_26 ?_
          refine lv_istore_n (lv' := [(1, .int (x4_1 + (nI 0))), (2, .int (nI k4)), (0, .ref a0)]) hx hb dX5_piecesDone_27 rfl hl (by decide) rfl (fun ls hl => ?_)
          refine lv_iinc (v := (nI (k4 + 1))) (lv' := [(2, .int (nI (k4 + 1))), (1, .int (x4_1 + (nI 0))), (0, .ref a0)]) hx hb dX5_piecesDone_28 hl (k := 1) rfl (nI_1 _) (by decide) rfl (fun ls hl => ?_)
          refine lv_goto (tgt := 4) hx hb dX5_piecesDone_31 (by decide) ?_
          exact ih_4 (k4 + 1) (x4_1 + (nI 0)) (by omega) (by omega) _ _ _ V (lv_sub hl [0, 1, 2] rfl)
  exact L_1 _ 0 (nI 0) (by omega) (Nat.lt_succ_self _) _ _ _ V (lv_sub hl [0, 1, 2] rfl)

def q_s_heatTogether (T : Nat → ClassId) (a0 : Nat) (an : Nat) (am : Int32) (al : Int32) (ao : Int32) (au : Int32) (a1 : Nat) (a2 : Nat) (a3 : Nat) (a4 : Nat) (a5 : Nat) (a6 : Nat) (a7 : Nat) (a8 : Nat) (a9 : Nat) (a10 : Nat) (af3 : Nat → Int32) : Option Value → va_W → Prop := fun rr ww => (∃ (z : Int32), rr = some (.int z) ∧ ww = [(a0, .inr (5, [.int (nI an), .int am, .int al, .int ao, .int au, .ref a1, .ref a2, .ref a3, .ref a4, .ref a5, .ref a6, .ref a7, .ref a8, .ref a9, .ref a10])), (a3, .inl (T 0, 10, .inl af3))])
set_option maxHeartbeats 4000000 in
set_option maxRecDepth 100000 in
theorem s_heatTogether (l : Launch) (D : va_G) (T : Nat → ClassId) (a0 : Nat) (an : Nat) (am : Int32) (al : Int32) (ao : Int32) (au : Int32) (a1 : Nat) (a2 : Nat) (a3 : Nat) (a4 : Nat) (a5 : Nat) (a6 : Nat) (a7 : Nat) (a8 : Nat) (a9 : Nat) (a10 : Nat) (af3 : Nat → Int32) (h_n : an ≤ 10) : Ct l yX5_heatTogether cX5_heatTogether 3 (some .int) 0 0 0 D T [.ref a0] [(a0, .inr (5, [.int (nI an), .int am, .int al, .int ao, .int au, .ref a1, .ref a2, .ref a3, .ref a4, .ref a5, .ref a6, .ref a7, .ref a8, .ref a9, .ref a10])), (a3, .inl (T 0, 10, .inl af3))] (q_s_heatTogether T a0 an am al ao au a1 a2 a3 a4 a5 a6 a7 a8 a9 a10 af3) := by
  refine Ct.of (cc := cX5_heatTogether) (maxL := 3) (ret := (some .int)) (by decide) (Nat.le_of_ble_eq_true rfl) ?_
  intro p e s m args below meth c A ls hC hnm V hl
  obtain ⟨hx, hb, hr, hml, hown, hts, hlocks⟩ := id hC
  generalize hH : s.heap = H at V ⊢
  clear hH
  have hl : lv_has ls 3 [(0, .ref a0)] := hl
  generalize hlo : ([] : List Loc) = locs at V ⊢
  clear hlo
  refine lv_iconst (v := (nI 0)) hx hb dX5_heatTogether_0 (by decide +kernel) ?_
  refine lv_istore_n (lv' := [(1, .int (nI 0)), (0, .ref a0)]) hx hb dX5_heatTogether_1 rfl hl (by decide) rfl (fun ls hl => ?_)
  refine lv_iconst (v := (nI 0)) hx hb dX5_heatTogether_2 (by decide +kernel) ?_
  refine lv_istore_n (lv' := [(2, .int (nI 0)), (1, .int (nI 0)), (0, .ref a0)]) hx hb dX5_heatTogether_3 rfl hl (by decide) rfl (fun ls hl => ?_)
  have L_1 : ∀ (fu : Nat) (k4 : Nat) (x4_1 : Int32), k4 ≤ an → an - k4 < fu → ∀ (H : Heap) (locs : List Loc) (ls : Array Slot), gW D T A s [(a0, .inr (5, [.int (nI an), .int am, .int al, .int ao, .int au, .ref a1, .ref a2, .ref a3, .ref a4, .ref a5, .ref a6, .ref a7, .ref a8, .ref a9, .ref a10])), (a3, .inl (T 0, 10, .inl af3))] H locs → lv_has ls 3 [(2, .int (nI k4)), (1, .int x4_1), (0, .ref a0)] → W p l e (rmD 0 0 0) s m args below meth c H locs 0 0 (MQ below (gQ D A (q_s_heatTogether T a0 an am al ao au a1 a2 a3 a4 a5 a6 a7 a8 a9 a10 af3)) args s 0 0 A) (F0 m 4 ls []) := by
    intro fu_4
    induction fu_4 with
    | zero => intro k4 x4_1 hk4 hmu; exact absurd hmu (Nat.not_lt_zero _)
    | succ fu_4 ih_4 =>
      intro k4 x4_1 hk4 hmu_4 H locs ls V hl
      refine lv_iload_n hx hb dX5_heatTogether_4 rfl (lv_at hl 0 rfl) ?_
      refine lv_aload_n hx hb dX5_heatTogether_5 rfl (lv_at hl 2 rfl) ?_
      refine g_get hC V (ci := 5) uwX5 0 rfl rfl 0 (by decide) w_33 rfl rfl dX5_heatTogether_6 ?_
      refine lv_icmp_ge (tgt := 27) hx hb dX5_heatTogether_9 (by decide) (fun c_2 => ?_) (fun c_2 => ?_)
      · skip
        have c_2 := b_le (by omega) (by omega) c_2
        refine lv_iload_n hx hb dX5_heatTogether_27 rfl (lv_at hl 1 rfl) ?_
        exact g_iret (Qr := (q_s_heatTogether T a0 an am al ao au a1 a2 a3 a4 a5 a6 a7 a8 a9 a10 af3)) hC V ⟨(Nat.le_of_ble_eq_true rfl), (Nat.le_of_ble_eq_true rfl)⟩ ⟨x4_1, rfl, rfl⟩ dX5_heatTogether_28
      · skip
        have c_2 := b_nle (by omega) (by omega) c_2
        refine lv_iload_n hx hb dX5_heatTogether_12 rfl (lv_at hl 1 rfl) ?_
        refine lv_aload_n hx hb dX5_heatTogether_13 rfl (lv_at hl 2 rfl) ?_
        refine g_get hC V (ci := 5) uwX5 0 rfl rfl 7 (by decide) w_62 rfl rfl dX5_heatTogether_14 ?_
        refine lv_iload_n hx hb dX5_heatTogether_17 rfl (lv_at hl 0 rfl) ?_
        refine g_iald hC V 1 rfl (vp_in_nI (by omega) (by omega)) (v := (af3 k4)) (congrArg _ (nI_clamp (by omega))) dX5_heatTogether_18 ?_
        refine lv_iadd hx hb dX5_heatTogether_19 ?_
        refine lv_istore_n (lv' := [(1, .int (x4_1 + (af3 k4))), (2, .int (nI k4)), (0, .ref a0)]) hx hb dX5_heatTogether_20 rfl hl (by decide) rfl (fun ls hl => ?_)
        refine lv_iinc (v := (nI (k4 + 1))) (lv' := [(2, .int (nI (k4 + 1))), (1, .int (x4_1 + (af3 k4))), (0, .ref a0)]) hx hb dX5_heatTogether_21 hl (k := 1) rfl (nI_1 _) (by decide) rfl (fun ls hl => ?_)
        refine lv_goto (tgt := 4) hx hb dX5_heatTogether_24 (by decide) ?_
        exact ih_4 (k4 + 1) (x4_1 + (af3 k4)) (by omega) (by omega) _ _ _ V (lv_sub hl [0, 1, 2] rfl)
  exact L_1 _ 0 (nI 0) (by omega) (Nat.lt_succ_self _) _ _ _ V (lv_sub hl [0, 1, 2] rfl)

def q_s_workable (T : Nat → ClassId) (a0 : Nat) (an : Nat) (am : Int32) (al : Int32) (ao : Int32) (au : Int32) (a1 : Nat) (a2 : Nat) (a3 : Nat) (a4 : Nat) (a5 : Nat) (a6 : Nat) (a7 : Nat) (a8 : Nat) (a9 : Nat) (a10 : Nat) (af3 : Nat → Int32) (af4 : Nat → Int32) (af5 : Nat → Int32) : Option Value → va_W → Prop := fun rr ww => (∃ (z : Int32), rr = some (.int z) ∧ ww = [(a0, .inr (5, [.int (nI an), .int am, .int al, .int ao, .int au, .ref a1, .ref a2, .ref a3, .ref a4, .ref a5, .ref a6, .ref a7, .ref a8, .ref a9, .ref a10])), (a3, .inl (T 0, 10, .inl af3)), (a4, .inl (T 0, 10, .inl af4)), (a5, .inl (T 0, 10, .inl af5))])
set_option maxHeartbeats 4000000 in
set_option maxRecDepth 100000 in
theorem s_workable (l : Launch) (D : va_G) (T : Nat → ClassId) (a0 : Nat) (an : Nat) (am : Int32) (al : Int32) (ao : Int32) (au : Int32) (a1 : Nat) (a2 : Nat) (a3 : Nat) (a4 : Nat) (a5 : Nat) (a6 : Nat) (a7 : Nat) (a8 : Nat) (a9 : Nat) (a10 : Nat) (af3 : Nat → Int32) (af4 : Nat → Int32) (af5 : Nat → Int32) (h_n : an ≤ 10) : Ct l yX5_workable cX5_workable 3 (some .int) 1 0 0 D T [.ref a0] [(a0, .inr (5, [.int (nI an), .int am, .int al, .int ao, .int au, .ref a1, .ref a2, .ref a3, .ref a4, .ref a5, .ref a6, .ref a7, .ref a8, .ref a9, .ref a10])), (a3, .inl (T 0, 10, .inl af3)), (a4, .inl (T 0, 10, .inl af4)), (a5, .inl (T 0, 10, .inl af5))] (q_s_workable T a0 an am al ao au a1 a2 a3 a4 a5 a6 a7 a8 a9 a10 af3 af4 af5) := by
  refine Ct.of (cc := cX5_workable) (maxL := 3) (ret := (some .int)) (by decide) (Nat.le_of_ble_eq_true rfl) ?_
  intro p e s m args below meth c A ls hC hnm V hl
  obtain ⟨hx, hb, hr, hml, hown, hts, hlocks⟩ := id hC
  generalize hH : s.heap = H at V ⊢
  clear hH
  have hl : lv_has ls 3 [(0, .ref a0)] := hl
  generalize hlo : ([] : List Loc) = locs at V ⊢
  clear hlo
  refine lv_iconst (v := (nI 0)) hx hb dX5_workable_0 (by decide +kernel) ?_
  refine lv_istore_n (lv' := [(1, .int (nI 0)), (0, .ref a0)]) hx hb dX5_workable_1 rfl hl (by decide) rfl (fun ls hl => ?_)
  refine lv_iconst (v := (nI 0)) hx hb dX5_workable_2 (by decide +kernel) ?_
  refine lv_istore_n (lv' := [(2, .int (nI 0)), (1, .int (nI 0)), (0, .ref a0)]) hx hb dX5_workable_3 rfl hl (by decide) rfl (fun ls hl => ?_)
  have L_1 : ∀ (fu : Nat) (k4 : Nat) (x4_1 : Int32), k4 ≤ an → an - k4 < fu → ∀ (H : Heap) (locs : List Loc) (ls : Array Slot), gW D T A s [(a0, .inr (5, [.int (nI an), .int am, .int al, .int ao, .int au, .ref a1, .ref a2, .ref a3, .ref a4, .ref a5, .ref a6, .ref a7, .ref a8, .ref a9, .ref a10])), (a3, .inl (T 0, 10, .inl af3)), (a4, .inl (T 0, 10, .inl af4)), (a5, .inl (T 0, 10, .inl af5))] H locs → lv_has ls 3 [(2, .int (nI k4)), (1, .int x4_1), (0, .ref a0)] → W p l e (rmD 1 0 0) s m args below meth c H locs 0 0 (MQ below (gQ D A (q_s_workable T a0 an am al ao au a1 a2 a3 a4 a5 a6 a7 a8 a9 a10 af3 af4 af5)) args s 0 0 A) (F0 m 4 ls []) := by
    intro fu_4
    induction fu_4 with
    | zero => intro k4 x4_1 hk4 hmu; exact absurd hmu (Nat.not_lt_zero _)
    | succ fu_4 ih_4 =>
      intro k4 x4_1 hk4 hmu_4 H locs ls V hl
      refine lv_iload_n hx hb dX5_workable_4 rfl (lv_at hl 0 rfl) ?_
      refine lv_aload_n hx hb dX5_workable_5 rfl (lv_at hl 2 rfl) ?_
      refine g_get hC V (ci := 5) uwX5 0 rfl rfl 0 (by decide) w_33 rfl rfl dX5_workable_6 ?_
      refine lv_icmp_ge (tgt := 42) hx hb dX5_workable_9 (by decide) (fun c_2 => ?_) (fun c_2 => ?_)
      · skip
        have c_2 := b_le (by omega) (by omega) c_2
        refine lv_iload_n hx hb dX5_workable_42 rfl (lv_at hl 1 rfl) ?_
        exact g_iret (Qr := (q_s_workable T a0 an am al ao au a1 a2 a3 a4 a5 a6 a7 a8 a9 a10 af3 af4 af5)) hC V ⟨(Nat.le_of_ble_eq_true rfl), (Nat.le_of_ble_eq_true rfl)⟩ ⟨x4_1, rfl, rfl⟩ dX5_workable_43
      · skip
        have c_2 := b_nle (by omega) (by omega) c_2
        refine lv_iload_n hx hb dX5_workable_12 rfl (lv_at hl 1 rfl) ?_
        refine lv_aload_n hx hb dX5_workable_13 rfl (lv_at hl 2 rfl) ?_
        refine lv_iload_n hx hb dX5_workable_14 rfl (lv_at hl 0 rfl) ?_
        refine lv_aload_n hx hb dX5_workable_15 rfl (lv_at hl 2 rfl) ?_
        refine g_get hC V (ci := 5) uwX5 0 rfl rfl 7 (by decide) w_62 rfl rfl dX5_workable_16 ?_
        refine lv_iload_n hx hb dX5_workable_19 rfl (lv_at hl 0 rfl) ?_
        refine g_iald hC V 1 rfl (vp_in_nI (by omega) (by omega)) (v := (af3 k4)) (congrArg _ (nI_clamp (by omega))) dX5_workable_20 ?_
        refine g_callVU (nA := 2) hC V hl.1 (s_isWorkableAt l D T a0 k4 (af3 k4) an am al ao au a1 a2 a3 a4 a5 a6 a7 a8 a9 a10 af4 af5 (by first | assumption | omega)) w_478 w_479 w_480 w_3 w_481 (by decide +kernel) rfl ⟨(Nat.le_of_ble_eq_true rfl), (Nat.le_of_ble_eq_true rfl)⟩ 0 (ci := 5) rfl rfl [0, 2, 3] rfl rfl (Nat.le_of_ble_eq_true rfl) dX5_workable_21 ⟨(Nat.le_of_ble_eq_true rfl), (Nat.le_of_ble_eq_true rfl)⟩ rfl (fun r w1 H locs hQ V => ?_)
        rcases hQ with ⟨rfl, rfl, f_3, f_4⟩ | ⟨rfl, rfl, f_5⟩
        · have V : gW D T A s [(a0, .inr (5, [.int (nI an), .int am, .int al, .int ao, .int au, .ref a1, .ref a2, .ref a3, .ref a4, .ref a5, .ref a6, .ref a7, .ref a8, .ref a9, .ref a10])), (a3, .inl (T 0, 10, .inl af3)), (a4, .inl (T 0, 10, .inl af4)), (a5, .inl (T 0, 10, .inl af5))] H locs := V _ [0, 1, 0] rfl rfl rfl (by decide +kernel) rfl
          show W p l e _ s m args below meth c H locs _ _ _ (F0 m 24 ls [.int (nI 1), .int x4_1])
          refine lv_if_eq (tgt := 33) hx hb dX5_workable_24 (by decide) (fun c => absurd (show (nI 1) = 0 from c) (by decide +kernel)) (fun _ => ?_)
          refine lv_iconst (v := (nI 1)) hx hb dX5_workable_27 (by decide +kernel) ?_
          refine lv_iload_n hx hb dX5_workable_28 rfl (lv_at hl 0 rfl) ?_
          refine lv_ishl hx hb dX5_workable_29 ?_
          refine lv_goto (tgt := 34) hx hb dX5_workable_30 (by decide) ?_
          refine lv_ior hx hb dX5_workable_34 ?_
          refine lv_istore_n (lv' := [(1, .int (x4_1 ||| ((nI 1) <<< ((nI k4) &&& 31)))), (2, .int (nI k4)), (0, .ref a0)]) hx hb dX5_workable_35 rfl hl (by decide) rfl (fun ls hl => ?_)
          refine lv_iinc (v := (nI (k4 + 1))) (lv' := [(2, .int (nI (k4 + 1))), (1, .int (x4_1 ||| ((nI 1) <<< ((nI k4) &&& 31)))), (0, .ref a0)]) hx hb dX5_workable_36 hl (k := 1) rfl (nI_1 _) (by decide) rfl (fun ls hl => ?_)
          refine lv_goto (tgt := 4) hx hb dX5_workable_39 (by decide) ?_
          exact ih_4 (k4 + 1) (x4_1 ||| ((nI 1) <<< ((nI k4) &&& 31))) (by omega) (by omega) _ _ _ V (lv_sub hl [0, 1, 2] rfl)
        · have V : gW D T A s [(a0, .inr (5, [.int (nI an), .int am, .int al, .int ao, .int au, .ref a1, .ref a2, .ref a3, .ref a4, .ref a5, .ref a6, .ref a7, .ref a8, .ref a9, .ref a10])), (a3, .inl (T 0, 10, .inl af3)), (a4, .inl (T 0, 10, .inl af4)), (a5, .inl (T 0, 10, .inl af5))] H locs := V _ [0, 1, 0] rfl rfl rfl (by decide +kernel) rfl
          show W p l e _ s m args below meth c H locs _ _ _ (F0 m 24 ls [.int (nI 0), .int x4_1])
          refine lv_if_eq (tgt := 33) hx hb dX5_workable_24 (by decide) (fun _ => ?_) (fun c => absurd (show (nI 0) = 0 by decide +kernel) c)
          refine lv_iconst (v := (nI 0)) hx hb dX5_workable_33 (by decide +kernel) ?_
          refine lv_ior hx hb dX5_workable_34 ?_
          refine lv_istore_n (lv' := [(1, .int (x4_1 ||| (nI 0))), (2, .int (nI k4)), (0, .ref a0)]) hx hb dX5_workable_35 rfl hl (by decide) rfl (fun ls hl => ?_)
          refine lv_iinc (v := (nI (k4 + 1))) (lv' := [(2, .int (nI (k4 + 1))), (1, .int (x4_1 ||| (nI 0))), (0, .ref a0)]) hx hb dX5_workable_36 hl (k := 1) rfl (nI_1 _) (by decide) rfl (fun ls hl => ?_)
          refine lv_goto (tgt := 4) hx hb dX5_workable_39 (by decide) ?_
          exact ih_4 (k4 + 1) (x4_1 ||| (nI 0)) (by omega) (by omega) _ _ _ V (lv_sub hl [0, 1, 2] rfl)
  exact L_1 _ 0 (nI 0) (by omega) (Nat.lt_succ_self _) _ _ _ V (lv_sub hl [0, 1, 2] rfl)

def q_fillJ (T : Nat → ClassId) (a : Nat) (x : Int64) (f0 : Nat → Int64) : Option Value → va_W → Prop := fun rr ww => (∃ (g : Nat → Int64), rr = none ∧ ww = [(a, .inl (T 1, 40, .inr (.inl g)))] ∧ (∀ i, i < 40 → g i = x))
set_option maxHeartbeats 4000000 in
set_option maxRecDepth 100000 in
theorem c_fillJ (l : Launch) (D : va_G) (T : Nat → ClassId) (a : Nat) (x : Int64) (f0 : Nat → Int64) : Ct l yJ7_fill_d0a16 cJ7_fill_d0a16 5 none 0 0 0 D T [.ref a, .long x] [(a, .inl (T 1, 40, .inr (.inl f0)))] (q_fillJ T a x f0) := by
  refine Ct.of (cc := cJ7_fill_d0a16) (maxL := 5) (ret := none) (by decide) (Nat.le_of_ble_eq_true rfl) ?_
  intro p e s m args below meth c A ls hC hnm V hl
  obtain ⟨hx, hb, hr, hml, hown, hts, hlocks⟩ := id hC
  generalize hH : s.heap = H at V ⊢
  clear hH
  have hl : lv_has ls 5 [(0, .ref a), (1, .long x)] := hl
  generalize hlo : ([] : List Loc) = locs at V ⊢
  clear hlo
  refine lv_iconst (v := (nI 0)) hx hb dJ7_fill_d0a16_0 (by decide +kernel) ?_
  refine lv_istore_n (lv' := [(3, .int (nI 0)), (0, .ref a), (1, .long x)]) hx hb dJ7_fill_d0a16_1 rfl hl (by decide) rfl (fun ls hl => ?_)
  refine lv_aload_n hx hb dJ7_fill_d0a16_2 rfl (lv_at hl 1 rfl) ?_
  refine g_alen hC V 0 1 rfl rfl dJ7_fill_d0a16_3 ?_
  refine lv_istore (lv' := [(4, .int (nI 40)), (3, .int (nI 0)), (0, .ref a), (1, .long x)]) hx hb dJ7_fill_d0a16_4 hl (by decide) rfl (fun ls hl => ?_)
  have L_1 : ∀ (fu : Nat) (k : Nat) (f : Nat → Int64), k ≤ 40 → (∀ i, i < k → f i = x) → 40 - k < fu → ∀ (H : Heap) (locs : List Loc) (ls : Array Slot), gW D T A s [(a, .inl (T 1, 40, .inr (.inl f)))] H locs → lv_has ls 5 [(4, .int (nI 40)), (3, .int (nI k)), (0, .ref a), (1, .long x)] → W p l e (rmD 0 0 0) s m args below meth c H locs 0 0 (MQ below (gQ D A (q_fillJ T a x f0)) args s 0 0 A) (F0 m 6 ls []) := by
    intro fu_6
    induction fu_6 with
    | zero => intro k f hk hf hmu; exact absurd hmu (Nat.not_lt_zero _)
    | succ fu_6 ih_6 =>
      intro k f hk hf hmu_6 H locs ls V hl
      refine lv_iload_n hx hb dJ7_fill_d0a16_6 rfl (lv_at hl 1 rfl) ?_
      refine lv_iload hx hb dJ7_fill_d0a16_7 (lv_at hl 0 rfl) ?_
      refine lv_icmp_ge (tgt := 22) hx hb dJ7_fill_d0a16_9 (by decide) (fun c_2 => ?_) (fun c_2 => ?_)
      · skip
        have c_2 := b_le (by omega) (by omega) c_2
        exact g_vret (Qr := (q_fillJ T a x f0)) hC V ⟨(Nat.le_of_ble_eq_true rfl), (Nat.le_of_ble_eq_true rfl)⟩ ⟨f, rfl, rfl, (fun i h => hf i (by omega))⟩ dJ7_fill_d0a16_22
      · skip
        have c_2 := b_nle (by omega) (by omega) c_2
        refine lv_aload_n hx hb dJ7_fill_d0a16_12 rfl (lv_at hl 2 rfl) ?_
        refine lv_iload_n hx hb dJ7_fill_d0a16_13 rfl (lv_at hl 1 rfl) ?_
        refine lv_lload_n hx hb dJ7_fill_d0a16_14 rfl (lv_at hl 3 rfl) ?_
        refine g_last hC V 0 rfl (vp_in_nI (by omega) (by omega)) (f' := (vp_updL f k x)) (by rw [nI_clamp (by omega)]) (ws' := [(a, .inl (T 1, 40, .inr (.inl (vp_updL f k x))))]) rfl dJ7_fill_d0a16_15 (fun H locs V => ?_)
        refine lv_iinc (v := (nI (k + 1))) (lv' := [(3, .int (nI (k + 1))), (4, .int (nI 40)), (0, .ref a), (1, .long x)]) hx hb dJ7_fill_d0a16_16 hl (k := 1) rfl (nI_1 _) (by decide) rfl (fun ls hl => ?_)
        refine lv_goto (tgt := 6) hx hb dJ7_fill_d0a16_19 (by decide) ?_
        exact ih_6 (k + 1) (vp_updL f k x) (by omega) (upL_one (p := fun i y => y = x) hf rfl) (by omega) _ _ _ V (lv_sub hl [1, 0, 2, 3] rfl)
  exact L_1 _ 0 f0 (by omega) (fun i h => absurd h (Nat.not_lt_zero _)) (Nat.lt_succ_self _) _ _ _ V (lv_sub hl [0, 1, 2, 3] rfl)

def q_r_begin (T : Nat → ClassId) (r0 : Nat) (st : Nat) (sz : Nat) (rh : Int32) (rz : Int32) (r1 : Nat) (rs : Int32) (rf : Nat → Int64) : Option Value → va_W → Prop := fun rr ww => (∃ (g : Nat → Int64), rr = none ∧ ww = [(r0, .inr (1, [.int (nI 1), .int (nI sz), .ref r1, .int (nI st)])), (r1, .inl (T 1, 40, .inr (.inl g)))] ∧ (∀ i, i < 40 → g i = 0))
set_option maxHeartbeats 4000000 in
set_option maxRecDepth 100000 in
theorem r_begin (l : Launch) (D : va_G) (T : Nat → ClassId) (r0 : Nat) (st : Nat) (sz : Nat) (rh : Int32) (rz : Int32) (r1 : Nat) (rs : Int32) (rf : Nat → Int64) : Ct l yX1_begin cX1_begin 3 none 1 0 0 D T [.ref r0, .int (nI st), .int (nI sz)] [(r0, .inr (1, [.int rh, .int rz, .ref r1, .int rs])), (r1, .inl (T 1, 40, .inr (.inl rf)))] (q_r_begin T r0 st sz rh rz r1 rs rf) := by
  refine Ct.of (cc := cX1_begin) (maxL := 3) (ret := none) (by decide) (Nat.le_of_ble_eq_true rfl) ?_
  intro p e s m args below meth c A ls hC hnm V hl
  obtain ⟨hx, hb, hr, hml, hown, hts, hlocks⟩ := id hC
  generalize hH : s.heap = H at V ⊢
  clear hH
  have hl : lv_has ls 3 [(0, .ref r0), (1, .int (nI st)), (2, .int (nI sz))] := hl
  generalize hlo : ([] : List Loc) = locs at V ⊢
  clear hlo
  refine lv_aload_n hx hb dX1_begin_0 rfl (lv_at hl 0 rfl) ?_
  refine lv_iconst (v := (nI 1)) hx hb dX1_begin_1 (by decide +kernel) ?_
  refine g_put hC V (ci := 1) uwX1 tyX1 tyX1_ok nmX1 0 rfl rfl 0 (by decide) w_228 rfl rfl (by decide +kernel) rfl (Nat.le_of_ble_eq_true rfl) (ws' := [(r0, .inr (1, [.int (nI 1), .int rz, .ref r1, .int rs])), (r1, .inl (T 1, 40, .inr (.inl rf)))]) rfl dX1_begin_2 (fun H locs V => ?_)
  refine lv_aload_n hx hb dX1_begin_5 rfl (lv_at hl 0 rfl) ?_
  refine lv_iload_n hx hb dX1_begin_6 rfl (lv_at hl 1 rfl) ?_
  refine g_put hC V (ci := 1) uwX1 tyX1 tyX1_ok nmX1 0 rfl rfl 3 (by decide) w_238 rfl rfl rfl rfl (Nat.le_of_ble_eq_true rfl) (ws' := [(r0, .inr (1, [.int (nI 1), .int rz, .ref r1, .int (nI st)])), (r1, .inl (T 1, 40, .inr (.inl rf)))]) rfl dX1_begin_7 (fun H locs V => ?_)
  refine lv_aload_n hx hb dX1_begin_10 rfl (lv_at hl 0 rfl) ?_
  refine lv_iload_n hx hb dX1_begin_11 rfl (lv_at hl 2 rfl) ?_
  refine g_put hC V (ci := 1) uwX1 tyX1 tyX1_ok nmX1 0 rfl rfl 1 (by decide) w_230 rfl rfl rfl rfl (Nat.le_of_ble_eq_true rfl) (ws' := [(r0, .inr (1, [.int (nI 1), .int (nI sz), .ref r1, .int (nI st)])), (r1, .inl (T 1, 40, .inr (.inl rf)))]) rfl dX1_begin_12 (fun H locs V => ?_)
  refine lv_aload_n hx hb dX1_begin_15 rfl (lv_at hl 0 rfl) ?_
  refine g_get hC V (ci := 1) uwX1 0 rfl rfl 2 (by decide) w_233 rfl rfl dX1_begin_16 ?_
  refine lv_lconst (v := 0) hx hb dX1_begin_19 (by decide +kernel) ?_
  refine g_callSU (nA := 2) hC V hl.1 (c_fillJ l D T r1 0 rf) w_863 w_864 w_11 w_865 (by decide +kernel) rfl ⟨(Nat.le_of_ble_eq_true rfl), (Nat.le_of_ble_eq_true rfl)⟩ [1] rfl rfl (Nat.le_of_ble_eq_true rfl) dX1_begin_20 ⟨(Nat.le_of_ble_eq_true rfl), (Nat.le_of_ble_eq_true rfl)⟩ rfl (fun r w1 H locs hQ V => ?_)
  obtain ⟨g_1, rfl, rfl, f_2⟩ := hQ
  have V : gW D T A s [(r0, .inr (1, [.int (nI 1), .int (nI sz), .ref r1, .int (nI st)])), (r1, .inl (T 1, 40, .inr (.inl g_1)))] H locs := V _ [1] rfl rfl rfl (by decide +kernel) rfl
  show W p l e _ s m args below meth c H locs _ _ _ (F0 m 23 ls [])
  exact g_vret (Qr := (q_r_begin T r0 st sz rh rz r1 rs rf)) hC V ⟨(Nat.le_of_ble_eq_true rfl), (Nat.le_of_ble_eq_true rfl)⟩ ⟨g_1, rfl, rfl, (by first | assumption | omega)⟩ dX1_begin_23

theorem cut0 {s : Nat} {v : Int64} (hs : s < 2147483648) (h : nI s = nI 0) : v.toInt32.toInt8.toInt32.toInt64 = cutv s v := by obtain rfl := b_eq hs (by decide) h; rfl
theorem cut1 {s : Nat} {v : Int64} (hs : s < 2147483648) (h : nI s = nI 1) : v.toInt32.toInt16.toInt32.toInt64 = cutv s v := by obtain rfl := b_eq hs (by decide) h; rfl
theorem cut2 {s : Nat} {v : Int64} (hs : s < 2147483648) (h : nI s = nI 2) : v.toInt32.toInt64 = cutv s v := by obtain rfl := b_eq hs (by decide) h; rfl
theorem cut3 {s : Nat} {v : Int64} (h0 : ¬ nI s = nI 0) (h1 : ¬ nI s = nI 1) (h2 : ¬ nI s = nI 2) : v = cutv s v := by
  have a0 : s ≠ 0 := fun e => h0 (by rw [e])
  have a1 : s ≠ 1 := fun e => h1 (by rw [e])
  have a2 : s ≠ 2 := fun e => h2 (by rw [e])
  simp [cutv, a0, a1, a2]

def q_r_cut (T : Nat → ClassId) (r0 : Nat) (v : Int64) (rh : Int32) (rz : Nat) (r1 : Nat) (rs : Nat) : Option Value → va_W → Prop := fun rr ww => (∃ (z : Int64), rr = some (.long z) ∧ ww = [(r0, .inr (1, [.int rh, .int (nI rz), .ref r1, .int (nI rs)]))] ∧ z = cutv rs v)
set_option maxHeartbeats 4000000 in
set_option maxRecDepth 100000 in
theorem r_cut (l : Launch) (D : va_G) (T : Nat → ClassId) (r0 : Nat) (v : Int64) (rh : Int32) (rz : Nat) (r1 : Nat) (rs : Nat) (h_s : rs ≤ 3) : Ct l yX1_cut cX1_cut 3 (some .long) 0 0 0 D T [.ref r0, .long v] [(r0, .inr (1, [.int rh, .int (nI rz), .ref r1, .int (nI rs)]))] (q_r_cut T r0 v rh rz r1 rs) := by
  refine Ct.of (cc := cX1_cut) (maxL := 3) (ret := (some .long)) (by decide) (Nat.le_of_ble_eq_true rfl) ?_
  intro p e s m args below meth c A ls hC hnm V hl
  obtain ⟨hx, hb, hr, hml, hown, hts, hlocks⟩ := id hC
  generalize hH : s.heap = H at V ⊢
  clear hH
  have hl : lv_has ls 3 [(0, .ref r0), (1, .long v)] := hl
  generalize hlo : ([] : List Loc) = locs at V ⊢
  clear hlo
  refine lv_aload_n hx hb dX1_cut_0 rfl (lv_at hl 0 rfl) ?_
  refine g_get hC V (ci := 1) uwX1 0 rfl rfl 3 (by decide) w_238 rfl rfl dX1_cut_1 ?_
  by_cases c_10 : (nI rs) = (nI 0)
  · skip
    refine lv_tableIn (tgt := 32) (off := 28) hx hb dX1_cut_4 (by first | decide +kernel | (rw [c_10]; decide +kernel)) (by first | decide +kernel | (rw [c_10]; decide +kernel)) (by first | decide +kernel | (rw [c_10]; decide +kernel)) (by decide) ?_
    refine lv_lload_n hx hb dX1_cut_32 rfl (lv_at hl 1 rfl) ?_
    refine lv_l2i hx hb dX1_cut_33 rfl ?_
    refine lv_i2b hx hb dX1_cut_34 rfl ?_
    refine lv_i2l (v := ((v.toInt32).toInt8.toInt32).toInt64) hx hb dX1_cut_35 rfl ?_
    exact g_lret (Qr := (q_r_cut T r0 v rh rz r1 rs)) hC V ⟨(Nat.le_of_ble_eq_true rfl), (Nat.le_of_ble_eq_true rfl)⟩ ⟨(((v.toInt32).toInt8.toInt32).toInt64), rfl, rfl, (cut0 (by omega) (by assumption))⟩ dX1_cut_36
  by_cases c_11 : (nI rs) = (nI 1)
  · skip
    refine lv_tableIn (tgt := 37) (off := 33) hx hb dX1_cut_4 (by first | decide +kernel | (rw [c_11]; decide +kernel)) (by first | decide +kernel | (rw [c_11]; decide +kernel)) (by first | decide +kernel | (rw [c_11]; decide +kernel)) (by decide) ?_
    refine lv_lload_n hx hb dX1_cut_37 rfl (lv_at hl 1 rfl) ?_
    refine lv_l2i hx hb dX1_cut_38 rfl ?_
    refine lv_i2s hx hb dX1_cut_39 rfl ?_
    refine lv_i2l (v := ((v.toInt32).toInt16.toInt32).toInt64) hx hb dX1_cut_40 rfl ?_
    exact g_lret (Qr := (q_r_cut T r0 v rh rz r1 rs)) hC V ⟨(Nat.le_of_ble_eq_true rfl), (Nat.le_of_ble_eq_true rfl)⟩ ⟨(((v.toInt32).toInt16.toInt32).toInt64), rfl, rfl, (cut1 (by omega) (by assumption))⟩ dX1_cut_41
  by_cases c_12 : (nI rs) = (nI 2)
  · skip
    refine lv_tableIn (tgt := 42) (off := 38) hx hb dX1_cut_4 (by first | decide +kernel | (rw [c_12]; decide +kernel)) (by first | decide +kernel | (rw [c_12]; decide +kernel)) (by first | decide +kernel | (rw [c_12]; decide +kernel)) (by decide) ?_
    refine lv_lload_n hx hb dX1_cut_42 rfl (lv_at hl 1 rfl) ?_
    refine lv_l2i hx hb dX1_cut_43 rfl ?_
    refine lv_i2l (v := v.toInt32.toInt64) hx hb dX1_cut_44 rfl ?_
    exact g_lret (Qr := (q_r_cut T r0 v rh rz r1 rs)) hC V ⟨(Nat.le_of_ble_eq_true rfl), (Nat.le_of_ble_eq_true rfl)⟩ ⟨v.toInt32.toInt64, rfl, rfl, (cut2 (by omega) (by assumption))⟩ dX1_cut_45
  refine lv_tableOut (tgt := 46) hx hb dX1_cut_4 (g_out 0 2 (fun k h1 h2 => ?_)) (by decide) ?_
  · intro h
    have h3 : k = 0 ∨ k = 1 ∨ k = 2 := by omega
    rcases h3 with rfl | rfl | rfl
    · exact c_10 (g_out2 h (by decide +kernel))
    · exact c_11 (g_out2 h (by decide +kernel))
    · exact c_12 (g_out2 h (by decide +kernel))
  refine lv_lload_n hx hb dX1_cut_46 rfl (lv_at hl 1 rfl) ?_
  exact g_lret (Qr := (q_r_cut T r0 v rh rz r1 rs)) hC V ⟨(Nat.le_of_ble_eq_true rfl), (Nat.le_of_ble_eq_true rfl)⟩ ⟨v, rfl, rfl, (cut3 (by assumption) (by assumption) (by assumption))⟩ dX1_cut_47

def q_r_put (T : Nat → ClassId) (r0 : Nat) (i : Nat) (v : Int64) (rh : Int32) (rz : Nat) (r1 : Nat) (rs : Nat) (rf : Nat → Int64) : Option Value → va_W → Prop := fun rr ww => (rr = none ∧ ww = [(r0, .inr (1, [.int rh, .int (nI rz), .ref r1, .int (nI rs)])), (r1, .inl (T 1, 40, .inr (.inl (vp_updL rf i (cutv rs v)))))])
set_option maxHeartbeats 4000000 in
set_option maxRecDepth 100000 in
theorem r_put (l : Launch) (D : va_G) (T : Nat → ClassId) (r0 : Nat) (i : Nat) (v : Int64) (rh : Int32) (rz : Nat) (r1 : Nat) (rs : Nat) (rf : Nat → Int64) (h_s : rs ≤ 3) (h_i : i < 40) : Ct l yX1_put cX1_put 4 none 1 0 0 D T [.ref r0, .int (nI i), .long v] [(r0, .inr (1, [.int rh, .int (nI rz), .ref r1, .int (nI rs)])), (r1, .inl (T 1, 40, .inr (.inl rf)))] (q_r_put T r0 i v rh rz r1 rs rf) := by
  refine Ct.of (cc := cX1_put) (maxL := 4) (ret := none) (by decide) (Nat.le_of_ble_eq_true rfl) ?_
  intro p e s m args below meth c A ls hC hnm V hl
  obtain ⟨hx, hb, hr, hml, hown, hts, hlocks⟩ := id hC
  generalize hH : s.heap = H at V ⊢
  clear hH
  have hl : lv_has ls 4 [(0, .ref r0), (1, .int (nI i)), (2, .long v)] := hl
  generalize hlo : ([] : List Loc) = locs at V ⊢
  clear hlo
  refine lv_aload_n hx hb dX1_put_0 rfl (lv_at hl 0 rfl) ?_
  refine g_get hC V (ci := 1) uwX1 0 rfl rfl 2 (by decide) w_233 rfl rfl dX1_put_1 ?_
  refine lv_iload_n hx hb dX1_put_4 rfl (lv_at hl 1 rfl) ?_
  refine lv_aload_n hx hb dX1_put_5 rfl (lv_at hl 0 rfl) ?_
  refine lv_lload_n hx hb dX1_put_6 rfl (lv_at hl 2 rfl) ?_
  refine g_callVU (nA := 1) hC V hl.1 (r_cut l D T r0 v rh rz r1 rs (by first | assumption | omega)) w_875 w_877 w_s35 w_8 w_878 (by decide +kernel) rfl ⟨(Nat.le_of_ble_eq_true rfl), (Nat.le_of_ble_eq_true rfl)⟩ 0 (ci := 1) rfl rfl [0] rfl rfl (Nat.le_of_ble_eq_true rfl) dX1_put_7 ⟨(Nat.le_of_ble_eq_true rfl), (Nat.le_of_ble_eq_true rfl)⟩ rfl (fun r w1 H locs hQ V => ?_)
  obtain ⟨z_1, rfl, rfl, f_2⟩ := hQ
  have V : gW D T A s [(r0, .inr (1, [.int rh, .int (nI rz), .ref r1, .int (nI rs)])), (r1, .inl (T 1, 40, .inr (.inl rf)))] H locs := V _ [0] rfl rfl rfl (by decide +kernel) rfl
  show W p l e _ s m args below meth c H locs _ _ _ (F0 m 10 ls [.long z_1, .int (nI i), .ref r1])
  refine g_last hC V 1 rfl (vp_in_nI (by omega) (by omega)) (f' := (vp_updL rf i (cutv rs v))) (by rw [nI_clamp (by omega), show z_1 = cutv rs v by assumption]) (ws' := [(r0, .inr (1, [.int rh, .int (nI rz), .ref r1, .int (nI rs)])), (r1, .inl (T 1, 40, .inr (.inl (vp_updL rf i (cutv rs v)))))]) rfl dX1_put_10 (fun H locs V => ?_)
  exact g_vret (Qr := (q_r_put T r0 i v rh rz r1 rs rf)) hC V ⟨(Nat.le_of_ble_eq_true rfl), (Nat.le_of_ble_eq_true rfl)⟩ ⟨rfl, rfl⟩ dX1_put_11

def q_h_everyTime (T : Nat → ClassId) (h0 : Nat) (h1 : Nat) (qx : Int32) (qy : Int32) (ql : Nat) (h2 : Nat) (h3 : Nat) : Option Value → va_W → Prop := fun rr ww => (∃ (z : Int32), rr = some (.int z) ∧ ww = [(h0, .inr (3, [.ref h1, .int qx, .int qy, .int (nI ql), .ref h2, .ref h3]))])
set_option maxHeartbeats 4000000 in
set_option maxRecDepth 100000 in
theorem h_everyTime (l : Launch) (D : va_G) (T : Nat → ClassId) (h0 : Nat) (h1 : Nat) (qx : Int32) (qy : Int32) (ql : Nat) (h2 : Nat) (h3 : Nat) : Ct l yX3_everyTime cX3_everyTime 1 (some .int) 0 0 0 D T [.ref h0] [(h0, .inr (3, [.ref h1, .int qx, .int qy, .int (nI ql), .ref h2, .ref h3]))] (q_h_everyTime T h0 h1 qx qy ql h2 h3) := by
  refine Ct.of (cc := cX3_everyTime) (maxL := 1) (ret := (some .int)) (by decide) (Nat.le_of_ble_eq_true rfl) ?_
  intro p e s m args below meth c A ls hC hnm V hl
  obtain ⟨hx, hb, hr, hml, hown, hts, hlocks⟩ := id hC
  generalize hH : s.heap = H at V ⊢
  clear hH
  have hl : lv_has ls 1 [(0, .ref h0)] := hl
  generalize hlo : ([] : List Loc) = locs at V ⊢
  clear hlo
  refine lv_iconst (v := (nI 1)) hx hb dX3_everyTime_0 (by decide +kernel) ?_
  refine lv_aload_n hx hb dX3_everyTime_1 rfl (lv_at hl 0 rfl) ?_
  refine g_get hC V (ci := 3) uwX3 0 rfl rfl 3 (by decide) w_189 rfl rfl dX3_everyTime_2 ?_
  refine lv_ishl hx hb dX3_everyTime_5 ?_
  refine lv_iconst (v := (nI 1)) hx hb dX3_everyTime_6 (by decide +kernel) ?_
  refine lv_isub hx hb dX3_everyTime_7 ?_
  exact g_iret (Qr := (q_h_everyTime T h0 h1 qx qy ql h2 h3)) hC V ⟨(Nat.le_of_ble_eq_true rfl), (Nat.le_of_ble_eq_true rfl)⟩ ⟨(((nI 1) <<< ((nI ql) &&& 31)) - (nI 1)), rfl, rfl⟩ dX3_everyTime_8

def q_h_weigh (T : Nat → ClassId) (h0 : Nat) (a0 : Nat) (j : Nat) (h1 : Nat) (qx : Int32) (qy : Int32) (ql : Nat) (h2 : Nat) (h3 : Nat) (qp : Nat → Int32) (qc : Nat → Int32) (an : Nat) (am : Int32) (al : Int32) (ao : Int32) (au : Int32) (a1 : Nat) (a2 : Nat) (a3 : Nat) (a4 : Nat) (a5 : Nat) (a6 : Nat) (a7 : Nat) (a8 : Nat) (a9 : Nat) (a10 : Nat) (af1 : Nat → Int32) (af2 : Nat → Int32) (af9 : Nat → Int32) : Option Value → va_W → Prop := fun rr ww => (∃ (g : Nat → Int32), rr = none ∧ ww = [(h0, .inr (3, [.ref h1, .int qx, .int qy, .int (nI ql), .ref h2, .ref h3])), (h2, .inl (T 0, 10, .inl qp)), (h3, .inl (T 0, 12, .inl g)), (a0, .inr (5, [.int (nI an), .int am, .int al, .int ao, .int au, .ref a1, .ref a2, .ref a3, .ref a4, .ref a5, .ref a6, .ref a7, .ref a8, .ref a9, .ref a10])), (a1, .inl (T 0, 10, .inl af1)), (a2, .inl (T 0, 10, .inl af2)), (a9, .inl (T 0, 10, .inl af9))])
set_option maxHeartbeats 4000000 in
set_option maxRecDepth 100000 in
theorem h_weigh (l : Launch) (D : va_G) (T : Nat → ClassId) (h0 : Nat) (a0 : Nat) (j : Nat) (h1 : Nat) (qx : Int32) (qy : Int32) (ql : Nat) (h2 : Nat) (h3 : Nat) (qp : Nat → Int32) (qc : Nat → Int32) (an : Nat) (am : Int32) (al : Int32) (ao : Int32) (au : Int32) (a1 : Nat) (a2 : Nat) (a3 : Nat) (a4 : Nat) (a5 : Nat) (a6 : Nat) (a7 : Nat) (a8 : Nat) (a9 : Nat) (a10 : Nat) (af1 : Nat → Int32) (af2 : Nat → Int32) (af9 : Nat → Int32) (h_n : an ≤ 10) (h_l : 1 ≤ ql ∧ ql ≤ 12) (h_j : j < an) : Ct l yX3_weighChanges cX3_weighChanges 5 none 1 0 0 D T [.ref h0, .ref a0, .int (nI j)] [(h0, .inr (3, [.ref h1, .int qx, .int qy, .int (nI ql), .ref h2, .ref h3])), (h2, .inl (T 0, 10, .inl qp)), (h3, .inl (T 0, 12, .inl qc)), (a0, .inr (5, [.int (nI an), .int am, .int al, .int ao, .int au, .ref a1, .ref a2, .ref a3, .ref a4, .ref a5, .ref a6, .ref a7, .ref a8, .ref a9, .ref a10])), (a1, .inl (T 0, 10, .inl af1)), (a2, .inl (T 0, 10, .inl af2)), (a9, .inl (T 0, 10, .inl af9))] (q_h_weigh T h0 a0 j h1 qx qy ql h2 h3 qp qc an am al ao au a1 a2 a3 a4 a5 a6 a7 a8 a9 a10 af1 af2 af9) := by
  refine Ct.of (cc := cX3_weighChanges) (maxL := 5) (ret := none) (by decide) (Nat.le_of_ble_eq_true rfl) ?_
  intro p e s m args below meth c A ls hC hnm V hl
  obtain ⟨hx, hb, hr, hml, hown, hts, hlocks⟩ := id hC
  generalize hH : s.heap = H at V ⊢
  clear hH
  have hl : lv_has ls 5 [(0, .ref h0), (1, .ref a0), (2, .int (nI j))] := hl
  generalize hlo : ([] : List Loc) = locs at V ⊢
  clear hlo
  refine lv_iconst (v := (nI 0)) hx hb dX3_weighChanges_0 (by decide +kernel) ?_
  refine lv_istore_n (lv' := [(3, .int (nI 0)), (0, .ref h0), (1, .ref a0), (2, .int (nI j))]) hx hb dX3_weighChanges_1 rfl hl (by decide) rfl (fun ls hl => ?_)
  have L_1 : ∀ (fu : Nat) (k2 : Nat) (ga : Nat → Int32), k2 ≤ ql → ql - k2 < fu → ∀ (H : Heap) (locs : List Loc) (ls : Array Slot), gW D T A s [(h0, .inr (3, [.ref h1, .int qx, .int qy, .int (nI ql), .ref h2, .ref h3])), (h2, .inl (T 0, 10, .inl qp)), (h3, .inl (T 0, 12, .inl ga)), (a0, .inr (5, [.int (nI an), .int am, .int al, .int ao, .int au, .ref a1, .ref a2, .ref a3, .ref a4, .ref a5, .ref a6, .ref a7, .ref a8, .ref a9, .ref a10])), (a1, .inl (T 0, 10, .inl af1)), (a2, .inl (T 0, 10, .inl af2)), (a9, .inl (T 0, 10, .inl af9))] H locs → lv_has ls 5 [(3, .int (nI k2)), (0, .ref h0), (1, .ref a0), (2, .int (nI j))] → W p l e (rmD 1 0 0) s m args below meth c H locs 0 0 (MQ below (gQ D A (q_h_weigh T h0 a0 j h1 qx qy ql h2 h3 qp qc an am al ao au a1 a2 a3 a4 a5 a6 a7 a8 a9 a10 af1 af2 af9)) args s 0 0 A) (F0 m 2 ls []) := by
    intro fu_2
    induction fu_2 with
    | zero => intro k2 ga hk2 hmu; exact absurd hmu (Nat.not_lt_zero _)
    | succ fu_2 ih_2 =>
      intro k2 ga hk2 hmu_2 H locs ls V hl
      refine lv_iload_n hx hb dX3_weighChanges_2 rfl (lv_at hl 0 rfl) ?_
      refine lv_aload_n hx hb dX3_weighChanges_3 rfl (lv_at hl 1 rfl) ?_
      refine g_get hC V (ci := 3) uwX3 0 rfl rfl 3 (by decide) w_189 rfl rfl dX3_weighChanges_4 ?_
      refine lv_icmp_ge (tgt := 29) hx hb dX3_weighChanges_7 (by decide) (fun c_2 => ?_) (fun c_2 => ?_)
      · skip
        have c_2 := b_le (by omega) (by omega) c_2
        refine lv_iconst (v := (nI 0)) hx hb dX3_weighChanges_29 (by decide +kernel) ?_
        refine lv_istore_n (lv' := [(3, .int (nI 0)), (0, .ref h0), (1, .ref a0), (2, .int (nI j))]) hx hb dX3_weighChanges_30 rfl hl (by decide) rfl (fun ls hl => ?_)
        have L_3 : ∀ (fu : Nat) (k31 : Nat) (gb : Nat → Int32), k31 ≤ an → an - k31 < fu → ∀ (H : Heap) (locs : List Loc) (ls : Array Slot), gW D T A s [(h0, .inr (3, [.ref h1, .int qx, .int qy, .int (nI ql), .ref h2, .ref h3])), (h2, .inl (T 0, 10, .inl qp)), (h3, .inl (T 0, 12, .inl gb)), (a0, .inr (5, [.int (nI an), .int am, .int al, .int ao, .int au, .ref a1, .ref a2, .ref a3, .ref a4, .ref a5, .ref a6, .ref a7, .ref a8, .ref a9, .ref a10])), (a1, .inl (T 0, 10, .inl af1)), (a2, .inl (T 0, 10, .inl af2)), (a9, .inl (T 0, 10, .inl af9))] H locs → lv_has ls 5 [(3, .int (nI k31)), (0, .ref h0), (1, .ref a0), (2, .int (nI j))] → W p l e (rmD 1 0 0) s m args below meth c H locs 0 0 (MQ below (gQ D A (q_h_weigh T h0 a0 j h1 qx qy ql h2 h3 qp qc an am al ao au a1 a2 a3 a4 a5 a6 a7 a8 a9 a10 af1 af2 af9)) args s 0 0 A) (F0 m 31 ls []) := by
          intro fu_31
          induction fu_31 with
          | zero => intro k31 gb hk31 hmu; exact absurd hmu (Nat.not_lt_zero _)
          | succ fu_31 ih_31 =>
            intro k31 gb hk31 hmu_31 H locs ls V hl
            refine lv_iload_n hx hb dX3_weighChanges_31 rfl (lv_at hl 0 rfl) ?_
            refine lv_aload_n hx hb dX3_weighChanges_32 rfl (lv_at hl 2 rfl) ?_
            refine g_get hC V (ci := 5) uwX5 3 rfl rfl 0 (by decide) w_37 rfl rfl dX3_weighChanges_33 ?_
            refine lv_icmp_ge (tgt := 107) hx hb dX3_weighChanges_36 (by decide) (fun c_4 => ?_) (fun c_4 => ?_)
            · skip
              have c_4 := b_le (by omega) (by omega) c_4
              exact g_vret (Qr := (q_h_weigh T h0 a0 j h1 qx qy ql h2 h3 qp qc an am al ao au a1 a2 a3 a4 a5 a6 a7 a8 a9 a10 af1 af2 af9)) hC V ⟨(Nat.le_of_ble_eq_true rfl), (Nat.le_of_ble_eq_true rfl)⟩ ⟨gb, rfl, rfl⟩ dX3_weighChanges_107
            · skip
              have c_4 := b_nle (by omega) (by omega) c_4
              refine lv_aload_n hx hb dX3_weighChanges_39 rfl (lv_at hl 2 rfl) ?_
              refine g_get hC V (ci := 5) uwX5 3 rfl rfl 13 (by decide) w_85 rfl rfl dX3_weighChanges_40 ?_
              refine lv_iload_n hx hb dX3_weighChanges_43 rfl (lv_at hl 0 rfl) ?_
              refine g_iald hC V 6 rfl (vp_in_nI (by omega) (by omega)) (v := (af9 k31)) (congrArg _ (nI_clamp (by omega))) dX3_weighChanges_44 ?_
              refine lv_iload_n hx hb dX3_weighChanges_45 rfl (lv_at hl 3 rfl) ?_
              refine lv_icmp_ne (tgt := 101) hx hb dX3_weighChanges_46 (by decide) (fun c_5 => ?_) (fun c_5 => ?_)
              · skip
                refine lv_iinc (v := (nI (k31 + 1))) (lv' := [(3, .int (nI (k31 + 1))), (0, .ref h0), (1, .ref a0), (2, .int (nI j))]) hx hb dX3_weighChanges_101 hl (k := 0) rfl (nI_1 _) (by decide) rfl (fun ls hl => ?_)
                refine lv_goto (tgt := 31) hx hb dX3_weighChanges_104 (by decide) ?_
                exact ih_31 (k31 + 1) gb (by omega) (by omega) _ _ _ V (lv_sub hl [0, 1, 2, 3] rfl)
              · skip
                refine lv_iconst (v := (nI 0)) hx hb dX3_weighChanges_49 (by decide +kernel) ?_
                refine lv_istore (lv' := [(4, .int (nI 0)), (3, .int (nI k31)), (0, .ref h0), (1, .ref a0), (2, .int (nI j))]) hx hb dX3_weighChanges_50 hl (by decide) rfl (fun ls hl => ?_)
                have L_6 : ∀ (fu : Nat) (k52 : Nat) (gc : Nat → Int32), k52 ≤ ql → ql - k52 < fu → ∀ (H : Heap) (locs : List Loc) (ls : Array Slot), gW D T A s [(h0, .inr (3, [.ref h1, .int qx, .int qy, .int (nI ql), .ref h2, .ref h3])), (h2, .inl (T 0, 10, .inl qp)), (h3, .inl (T 0, 12, .inl gc)), (a0, .inr (5, [.int (nI an), .int am, .int al, .int ao, .int au, .ref a1, .ref a2, .ref a3, .ref a4, .ref a5, .ref a6, .ref a7, .ref a8, .ref a9, .ref a10])), (a1, .inl (T 0, 10, .inl af1)), (a2, .inl (T 0, 10, .inl af2)), (a9, .inl (T 0, 10, .inl af9))] H locs → lv_has ls 5 [(4, .int (nI k52)), (3, .int (nI k31)), (0, .ref h0), (1, .ref a0), (2, .int (nI j))] → W p l e (rmD 1 0 0) s m args below meth c H locs 0 0 (MQ below (gQ D A (q_h_weigh T h0 a0 j h1 qx qy ql h2 h3 qp qc an am al ao au a1 a2 a3 a4 a5 a6 a7 a8 a9 a10 af1 af2 af9)) args s 0 0 A) (F0 m 52 ls []) := by
                  intro fu_52
                  induction fu_52 with
                  | zero => intro k52 gc hk52 hmu; exact absurd hmu (Nat.not_lt_zero _)
                  | succ fu_52 ih_52 =>
                    intro k52 gc hk52 hmu_52 H locs ls V hl
                    refine lv_iload hx hb dX3_weighChanges_52 (lv_at hl 0 rfl) ?_
                    refine lv_aload_n hx hb dX3_weighChanges_54 rfl (lv_at hl 2 rfl) ?_
                    refine g_get hC V (ci := 3) uwX3 0 rfl rfl 3 (by decide) w_189 rfl rfl dX3_weighChanges_55 ?_
                    refine lv_icmp_ge (tgt := 101) hx hb dX3_weighChanges_58 (by decide) (fun c_7 => ?_) (fun c_7 => ?_)
                    · skip
                      have c_7 := b_le (by omega) (by omega) c_7
                      refine lv_iinc (v := (nI (k31 + 1))) (lv' := [(3, .int (nI (k31 + 1))), (4, .int (nI k52)), (0, .ref h0), (1, .ref a0), (2, .int (nI j))]) hx hb dX3_weighChanges_101 hl (k := 1) rfl (nI_1 _) (by decide) rfl (fun ls hl => ?_)
                      refine lv_goto (tgt := 31) hx hb dX3_weighChanges_104 (by decide) ?_
                      exact ih_31 (k31 + 1) gc (by omega) (by omega) _ _ _ V (lv_sub hl [0, 2, 3, 4] rfl)
                    · skip
                      have c_7 := b_nle (by omega) (by omega) c_7
                      refine lv_aload_n hx hb dX3_weighChanges_61 rfl (lv_at hl 2 rfl) ?_
                      refine g_get hC V (ci := 3) uwX3 0 rfl rfl 5 (by decide) w_191 rfl rfl dX3_weighChanges_62 ?_
                      refine lv_iload hx hb dX3_weighChanges_65 (lv_at hl 0 rfl) ?_
                      refine lv_dup2_11 hx hb dX3_weighChanges_67 rfl rfl ?_
                      refine g_iald hC V 2 rfl (vp_in_nI (by omega) (by omega)) (v := (gc k52)) (congrArg _ (nI_clamp (by omega))) dX3_weighChanges_68 ?_
                      refine lv_aload_n hx hb dX3_weighChanges_69 rfl (lv_at hl 2 rfl) ?_
                      refine g_get hC V (ci := 3) uwX3 0 rfl rfl 4 (by decide) w_190 rfl rfl dX3_weighChanges_70 ?_
                      refine lv_iload_n hx hb dX3_weighChanges_73 rfl (lv_at hl 1 rfl) ?_
                      refine g_iald hC V 1 rfl (vp_in_nI (by omega) (by omega)) (v := (qp k31)) (congrArg _ (nI_clamp (by omega))) dX3_weighChanges_74 ?_
                      refine lv_iload hx hb dX3_weighChanges_75 (lv_at hl 0 rfl) ?_
                      refine g_callSNU (nA := 2) (host := RX7) hC V hl.1 (c_isIn l D T (qp k31) (nI k52)) w_472 (List.mem_of_getElem? (i := 10) rfl) w_2 w_471 (by decide +kernel) rfl ⟨(Nat.le_of_ble_eq_true rfl), (Nat.le_of_ble_eq_true rfl)⟩ [] rfl rfl (Nat.le_of_ble_eq_true rfl) dX3_weighChanges_77 ⟨(Nat.le_of_ble_eq_true rfl), (Nat.le_of_ble_eq_true rfl)⟩ rfl (fun r w1 H locs hQ V => ?_)
                      rcases hQ with ⟨rfl, rfl⟩ | ⟨rfl, rfl⟩
                      · have V : gW D T A s [(h0, .inr (3, [.ref h1, .int qx, .int qy, .int (nI ql), .ref h2, .ref h3])), (h2, .inl (T 0, 10, .inl qp)), (h3, .inl (T 0, 12, .inl gc)), (a0, .inr (5, [.int (nI an), .int am, .int al, .int ao, .int au, .ref a1, .ref a2, .ref a3, .ref a4, .ref a5, .ref a6, .ref a7, .ref a8, .ref a9, .ref a10])), (a1, .inl (T 0, 10, .inl af1)), (a2, .inl (T 0, 10, .inl af2)), (a9, .inl (T 0, 10, .inl af9))] H locs := V _ [] rfl rfl rfl (by decide +kernel) rfl
                        show W p l e _ s m args below meth c H locs _ _ _ (F0 m 80 ls [.int (nI 1), .int (gc k52), .int (nI k52), .ref h3])
                        refine lv_if_eq (tgt := 92) hx hb dX3_weighChanges_80 (by decide) (fun c => absurd (show (nI 1) = 0 from c) (by decide +kernel)) (fun _ => ?_)
                        refine lv_aload_n hx hb dX3_weighChanges_83 rfl (lv_at hl 3 rfl) ?_
                        refine g_get hC V (ci := 5) uwX5 3 rfl rfl 5 (by decide) w_55 rfl rfl dX3_weighChanges_84 ?_
                        refine lv_iload_n hx hb dX3_weighChanges_87 rfl (lv_at hl 1 rfl) ?_
                        refine g_iald hC V 4 rfl (vp_in_nI (by omega) (by omega)) (v := (af1 k31)) (congrArg _ (nI_clamp (by omega))) dX3_weighChanges_88 ?_
                        refine lv_goto (tgt := 93) hx hb dX3_weighChanges_89 (by decide) ?_
                        refine lv_iadd hx hb dX3_weighChanges_93 ?_
                        refine g_iast hC V 2 rfl (vp_in_nI (by omega) (by omega)) (f' := (upd gc k52 ((gc k52) + (af1 k31)))) (by rw [nI_clamp (by omega)]) (ws' := [(h0, .inr (3, [.ref h1, .int qx, .int qy, .int (nI ql), .ref h2, .ref h3])), (h2, .inl (T 0, 10, .inl qp)), (h3, .inl (T 0, 12, .inl (upd gc k52 ((gc k52) + (af1 k31))))), (a0, .inr (5, [.int (nI an), .int am, .int al, .int ao, .int au, .ref a1, .ref a2, .ref a3, .ref a4, .ref a5, .ref a6, .ref a7, .ref a8, .ref a9, .ref a10])), (a1, .inl (T 0, 10, .inl af1)), (a2, .inl (T 0, 10, .inl af2)), (a9, .inl (T 0, 10, .inl af9))]) rfl dX3_weighChanges_94 (fun H locs V => ?_)
                        refine lv_iinc (v := (nI (k52 + 1))) (lv' := [(4, .int (nI (k52 + 1))), (3, .int (nI k31)), (0, .ref h0), (1, .ref a0), (2, .int (nI j))]) hx hb dX3_weighChanges_95 hl (k := 0) rfl (nI_1 _) (by decide) rfl (fun ls hl => ?_)
                        refine lv_goto (tgt := 52) hx hb dX3_weighChanges_98 (by decide) ?_
                        exact ih_52 (k52 + 1) (upd gc k52 ((gc k52) + (af1 k31))) (by omega) (by omega) _ _ _ V (lv_sub hl [0, 1, 2, 3, 4] rfl)
                      · have V : gW D T A s [(h0, .inr (3, [.ref h1, .int qx, .int qy, .int (nI ql), .ref h2, .ref h3])), (h2, .inl (T 0, 10, .inl qp)), (h3, .inl (T 0, 12, .inl gc)), (a0, .inr (5, [.int (nI an), .int am, .int al, .int ao, .int au, .ref a1, .ref a2, .ref a3, .ref a4, .ref a5, .ref a6, .ref a7, .ref a8, .ref a9, .ref a10])), (a1, .inl (T 0, 10, .inl af1)), (a2, .inl (T 0, 10, .inl af2)), (a9, .inl (T 0, 10, .inl af9))] H locs := V _ [] rfl rfl rfl (by decide +kernel) rfl
                        show W p l e _ s m args below meth c H locs _ _ _ (F0 m 80 ls [.int (nI 0), .int (gc k52), .int (nI k52), .ref h3])
                        refine lv_if_eq (tgt := 92) hx hb dX3_weighChanges_80 (by decide) (fun _ => ?_) (fun c => absurd (show (nI 0) = 0 by decide +kernel) c)
                        refine lv_iconst (v := (nI 0)) hx hb dX3_weighChanges_92 (by decide +kernel) ?_
                        refine lv_iadd hx hb dX3_weighChanges_93 ?_
                        refine g_iast hC V 2 rfl (vp_in_nI (by omega) (by omega)) (f' := (upd gc k52 ((gc k52) + (nI 0)))) (by rw [nI_clamp (by omega)]) (ws' := [(h0, .inr (3, [.ref h1, .int qx, .int qy, .int (nI ql), .ref h2, .ref h3])), (h2, .inl (T 0, 10, .inl qp)), (h3, .inl (T 0, 12, .inl (upd gc k52 ((gc k52) + (nI 0))))), (a0, .inr (5, [.int (nI an), .int am, .int al, .int ao, .int au, .ref a1, .ref a2, .ref a3, .ref a4, .ref a5, .ref a6, .ref a7, .ref a8, .ref a9, .ref a10])), (a1, .inl (T 0, 10, .inl af1)), (a2, .inl (T 0, 10, .inl af2)), (a9, .inl (T 0, 10, .inl af9))]) rfl dX3_weighChanges_94 (fun H locs V => ?_)
                        refine lv_iinc (v := (nI (k52 + 1))) (lv' := [(4, .int (nI (k52 + 1))), (3, .int (nI k31)), (0, .ref h0), (1, .ref a0), (2, .int (nI j))]) hx hb dX3_weighChanges_95 hl (k := 0) rfl (nI_1 _) (by decide) rfl (fun ls hl => ?_)
                        refine lv_goto (tgt := 52) hx hb dX3_weighChanges_98 (by decide) ?_
                        exact ih_52 (k52 + 1) (upd gc k52 ((gc k52) + (nI 0))) (by omega) (by omega) _ _ _ V (lv_sub hl [0, 1, 2, 3, 4] rfl)
                exact L_6 _ 0 gb (by omega) (Nat.lt_succ_self _) _ _ _ V (lv_sub hl [0, 1, 2, 3, 4] rfl)
        exact L_3 _ 0 ga (by omega) (Nat.lt_succ_self _) _ _ _ V (lv_sub hl [0, 1, 2, 3] rfl)
      · skip
        have c_2 := b_nle (by omega) (by omega) c_2
        refine lv_aload_n hx hb dX3_weighChanges_10 rfl (lv_at hl 1 rfl) ?_
        refine g_get hC V (ci := 3) uwX3 0 rfl rfl 5 (by decide) w_191 rfl rfl dX3_weighChanges_11 ?_
        refine lv_iload_n hx hb dX3_weighChanges_14 rfl (lv_at hl 0 rfl) ?_
        refine lv_aload_n hx hb dX3_weighChanges_15 rfl (lv_at hl 2 rfl) ?_
        refine g_get hC V (ci := 5) uwX5 3 rfl rfl 6 (by decide) w_61 rfl rfl dX3_weighChanges_16 ?_
        refine lv_iload_n hx hb dX3_weighChanges_19 rfl (lv_at hl 3 rfl) ?_
        refine g_iald hC V 5 rfl (vp_in_nI (by omega) (by omega)) (v := (af2 j)) (congrArg _ (nI_clamp (by omega))) dX3_weighChanges_20 ?_
        refine lv_ineg hx hb dX3_weighChanges_21 ?_
        refine g_iast hC V 2 rfl (vp_in_nI (by omega) (by omega)) (f' := (upd ga k2 (-(af2 j)))) (by rw [nI_clamp (by omega)]) (ws' := [(h0, .inr (3, [.ref h1, .int qx, .int qy, .int (nI ql), .ref h2, .ref h3])), (h2, .inl (T 0, 10, .inl qp)), (h3, .inl (T 0, 12, .inl (upd ga k2 (-(af2 j))))), (a0, .inr (5, [.int (nI an), .int am, .int al, .int ao, .int au, .ref a1, .ref a2, .ref a3, .ref a4, .ref a5, .ref a6, .ref a7, .ref a8, .ref a9, .ref a10])), (a1, .inl (T 0, 10, .inl af1)), (a2, .inl (T 0, 10, .inl af2)), (a9, .inl (T 0, 10, .inl af9))]) rfl dX3_weighChanges_22 (fun H locs V => ?_)
        refine lv_iinc (v := (nI (k2 + 1))) (lv' := [(3, .int (nI (k2 + 1))), (0, .ref h0), (1, .ref a0), (2, .int (nI j))]) hx hb dX3_weighChanges_23 hl (k := 0) rfl (nI_1 _) (by decide) rfl (fun ls hl => ?_)
        refine lv_goto (tgt := 2) hx hb dX3_weighChanges_26 (by decide) ?_
        exact ih_2 (k2 + 1) (upd ga k2 (-(af2 j))) (by omega) (by omega) _ _ _ V (lv_sub hl [0, 1, 2, 3] rfl)
  exact L_1 _ 0 qc (by omega) (Nat.lt_succ_self _) _ _ _ V (lv_sub hl [0, 1, 2, 3] rfl)

def q_h_breaks (T : Nat → ClassId) (h0 : Nat) (a0 : Nat) (j : Nat) (h1 : Nat) (qx : Int32) (qy : Int32) (ql : Nat) (h2 : Nat) (h3 : Nat) (qp : Nat → Int32) (qc : Nat → Int32) (an : Nat) (am : Int32) (al : Int32) (ao : Int32) (au : Int32) (a1 : Nat) (a2 : Nat) (a3 : Nat) (a4 : Nat) (a5 : Nat) (a6 : Nat) (a7 : Nat) (a8 : Nat) (a9 : Nat) (a10 : Nat) (af1 : Nat → Int32) (af2 : Nat → Int32) (af3 : Nat → Int32) (af4 : Nat → Int32) (af5 : Nat → Int32) (af9 : Nat → Int32) : Option Value → va_W → Prop := fun rr ww => (∃ (z : Int32) (g : Nat → Int32), rr = some (.int z) ∧ ww = [(h0, .inr (3, [.ref h1, .int qx, .int qy, .int (nI ql), .ref h2, .ref h3])), (h2, .inl (T 0, 10, .inl qp)), (h3, .inl (T 0, 12, .inl g)), (a0, .inr (5, [.int (nI an), .int am, .int al, .int ao, .int au, .ref a1, .ref a2, .ref a3, .ref a4, .ref a5, .ref a6, .ref a7, .ref a8, .ref a9, .ref a10])), (a1, .inl (T 0, 10, .inl af1)), (a2, .inl (T 0, 10, .inl af2)), (a3, .inl (T 0, 10, .inl af3)), (a4, .inl (T 0, 10, .inl af4)), (a5, .inl (T 0, 10, .inl af5)), (a9, .inl (T 0, 10, .inl af9))])
set_option maxHeartbeats 4000000 in
set_option maxRecDepth 100000 in
theorem h_breaks (l : Launch) (D : va_G) (T : Nat → ClassId) (h0 : Nat) (a0 : Nat) (j : Nat) (h1 : Nat) (qx : Int32) (qy : Int32) (ql : Nat) (h2 : Nat) (h3 : Nat) (qp : Nat → Int32) (qc : Nat → Int32) (an : Nat) (am : Int32) (al : Int32) (ao : Int32) (au : Int32) (a1 : Nat) (a2 : Nat) (a3 : Nat) (a4 : Nat) (a5 : Nat) (a6 : Nat) (a7 : Nat) (a8 : Nat) (a9 : Nat) (a10 : Nat) (af1 : Nat → Int32) (af2 : Nat → Int32) (af3 : Nat → Int32) (af4 : Nat → Int32) (af5 : Nat → Int32) (af9 : Nat → Int32) (h_n : an ≤ 10) (h_l : 1 ≤ ql ∧ ql ≤ 12) (h_j : j < an) : Ct l yX3_breaksBehind cX3_breaksBehind 7 (some .int) 2 0 0 D T [.ref h0, .ref a0, .int (nI j)] [(h0, .inr (3, [.ref h1, .int qx, .int qy, .int (nI ql), .ref h2, .ref h3])), (h2, .inl (T 0, 10, .inl qp)), (h3, .inl (T 0, 12, .inl qc)), (a0, .inr (5, [.int (nI an), .int am, .int al, .int ao, .int au, .ref a1, .ref a2, .ref a3, .ref a4, .ref a5, .ref a6, .ref a7, .ref a8, .ref a9, .ref a10])), (a1, .inl (T 0, 10, .inl af1)), (a2, .inl (T 0, 10, .inl af2)), (a3, .inl (T 0, 10, .inl af3)), (a4, .inl (T 0, 10, .inl af4)), (a5, .inl (T 0, 10, .inl af5)), (a9, .inl (T 0, 10, .inl af9))] (q_h_breaks T h0 a0 j h1 qx qy ql h2 h3 qp qc an am al ao au a1 a2 a3 a4 a5 a6 a7 a8 a9 a10 af1 af2 af3 af4 af5 af9) := by
  refine Ct.of (cc := cX3_breaksBehind) (maxL := 7) (ret := (some .int)) (by decide) (Nat.le_of_ble_eq_true rfl) ?_
  intro p e s m args below meth c A ls hC hnm V hl
  obtain ⟨hx, hb, hr, hml, hown, hts, hlocks⟩ := id hC
  generalize hH : s.heap = H at V ⊢
  clear hH
  have hl : lv_has ls 7 [(0, .ref h0), (1, .ref a0), (2, .int (nI j))] := hl
  generalize hlo : ([] : List Loc) = locs at V ⊢
  clear hlo
  refine lv_aload_n hx hb dX3_breaksBehind_0 rfl (lv_at hl 0 rfl) ?_
  refine lv_aload_n hx hb dX3_breaksBehind_1 rfl (lv_at hl 1 rfl) ?_
  refine lv_iload_n hx hb dX3_breaksBehind_2 rfl (lv_at hl 2 rfl) ?_
  refine g_callVU (nA := 2) hC V hl.1 (h_weigh l D T h0 a0 j h1 qx qy ql h2 h3 qp qc an am al ao au a1 a2 a3 a4 a5 a6 a7 a8 a9 a10 af1 af2 af9 (by first | assumption | omega) (by first | assumption | omega) (by first | assumption | omega)) w_618 w_620 w_s19 w_6 w_621 (by decide +kernel) rfl ⟨(Nat.le_of_ble_eq_true rfl), (Nat.le_of_ble_eq_true rfl)⟩ 0 (ci := 3) rfl rfl [0, 1, 2, 3, 4, 5, 9] rfl rfl (Nat.le_of_ble_eq_true rfl) dX3_breaksBehind_3 ⟨(Nat.le_of_ble_eq_true rfl), (Nat.le_of_ble_eq_true rfl)⟩ rfl (fun r w1 H locs hQ V => ?_)
  obtain ⟨g_1, rfl, rfl⟩ := hQ
  have V : gW D T A s [(h0, .inr (3, [.ref h1, .int qx, .int qy, .int (nI ql), .ref h2, .ref h3])), (h2, .inl (T 0, 10, .inl qp)), (h3, .inl (T 0, 12, .inl g_1)), (a0, .inr (5, [.int (nI an), .int am, .int al, .int ao, .int au, .ref a1, .ref a2, .ref a3, .ref a4, .ref a5, .ref a6, .ref a7, .ref a8, .ref a9, .ref a10])), (a1, .inl (T 0, 10, .inl af1)), (a2, .inl (T 0, 10, .inl af2)), (a3, .inl (T 0, 10, .inl af3)), (a4, .inl (T 0, 10, .inl af4)), (a5, .inl (T 0, 10, .inl af5)), (a9, .inl (T 0, 10, .inl af9))] H locs := V _ [0, 0, 0, 0, 0, 0, 3] rfl rfl rfl (by decide +kernel) rfl
  show W p l e _ s m args below meth c H locs _ _ _ (F0 m 6 ls [])
  refine lv_aload_n hx hb dX3_breaksBehind_6 rfl (lv_at hl 1 rfl) ?_
  refine g_get hC V (ci := 5) uwX5 3 rfl rfl 7 (by decide) w_66 rfl rfl dX3_breaksBehind_7 ?_
  refine lv_iload_n hx hb dX3_breaksBehind_10 rfl (lv_at hl 2 rfl) ?_
  refine g_iald hC V 6 rfl (vp_in_nI (by omega) (by omega)) (v := (af3 j)) (congrArg _ (nI_clamp (by omega))) dX3_breaksBehind_11 ?_
  refine lv_istore_n (lv' := [(3, .int (af3 j)), (0, .ref h0), (1, .ref a0), (2, .int (nI j))]) hx hb dX3_breaksBehind_12 rfl hl (by decide) rfl (fun ls hl => ?_)
  refine lv_iconst (v := (nI 0)) hx hb dX3_breaksBehind_13 (by decide +kernel) ?_
  refine lv_istore (lv' := [(4, .int (nI 0)), (3, .int (af3 j)), (0, .ref h0), (1, .ref a0), (2, .int (nI j))]) hx hb dX3_breaksBehind_14 hl (by decide) rfl (fun ls hl => ?_)
  have L_2 : ∀ (fu : Nat) (k16 : Nat) (x16_3 : Int32), k16 ≤ 202 → 202 - k16 < fu → ∀ (H : Heap) (locs : List Loc) (ls : Array Slot), gW D T A s [(h0, .inr (3, [.ref h1, .int qx, .int qy, .int (nI ql), .ref h2, .ref h3])), (h2, .inl (T 0, 10, .inl qp)), (h3, .inl (T 0, 12, .inl g_1)), (a0, .inr (5, [.int (nI an), .int am, .int al, .int ao, .int au, .ref a1, .ref a2, .ref a3, .ref a4, .ref a5, .ref a6, .ref a7, .ref a8, .ref a9, .ref a10])), (a1, .inl (T 0, 10, .inl af1)), (a2, .inl (T 0, 10, .inl af2)), (a3, .inl (T 0, 10, .inl af3)), (a4, .inl (T 0, 10, .inl af4)), (a5, .inl (T 0, 10, .inl af5)), (a9, .inl (T 0, 10, .inl af9))] H locs → lv_has ls 7 [(4, .int (nI k16)), (3, .int x16_3), (0, .ref h0), (1, .ref a0), (2, .int (nI j))] → W p l e (rmD 2 0 0) s m args below meth c H locs 0 0 (MQ below (gQ D A (q_h_breaks T h0 a0 j h1 qx qy ql h2 h3 qp qc an am al ao au a1 a2 a3 a4 a5 a6 a7 a8 a9 a10 af1 af2 af3 af4 af5 af9)) args s 0 0 A) (F0 m 16 ls []) := by
    intro fu_16
    induction fu_16 with
    | zero => intro k16 x16_3 hk16 hmu; exact absurd hmu (Nat.not_lt_zero _)
    | succ fu_16 ih_16 =>
      intro k16 x16_3 hk16 hmu_16 H locs ls V hl
      refine lv_iload hx hb dX3_breaksBehind_16 (lv_at hl 0 rfl) ?_
      refine lv_sipush (v := (nI 201)) hx hb dX3_breaksBehind_18 (by decide +kernel) ?_
      refine lv_icmp_gt (tgt := 94) hx hb dX3_breaksBehind_21 (by decide) (fun c_3 => ?_) (fun c_3 => ?_)
      · skip
        have c_3 := b_lt (by omega) (by omega) c_3
        refine lv_iconst (v := (-1)) hx hb dX3_breaksBehind_94 (by decide +kernel) ?_
        exact g_iret (Qr := (q_h_breaks T h0 a0 j h1 qx qy ql h2 h3 qp qc an am al ao au a1 a2 a3 a4 a5 a6 a7 a8 a9 a10 af1 af2 af3 af4 af5 af9)) hC V ⟨(Nat.le_of_ble_eq_true rfl), (Nat.le_of_ble_eq_true rfl)⟩ ⟨(-1), g_1, rfl, rfl⟩ dX3_breaksBehind_95
      · skip
        have c_3 := b_nlt (by omega) (by omega) c_3
        refine lv_iload_n hx hb dX3_breaksBehind_24 rfl (lv_at hl 1 rfl) ?_
        refine lv_istore (lv' := [(5, .int x16_3), (4, .int (nI k16)), (3, .int x16_3), (0, .ref h0), (1, .ref a0), (2, .int (nI j))]) hx hb dX3_breaksBehind_25 hl (by decide) rfl (fun ls hl => ?_)
        refine lv_iconst (v := (nI 0)) hx hb dX3_breaksBehind_27 (by decide +kernel) ?_
        refine lv_istore (lv' := [(6, .int (nI 0)), (5, .int x16_3), (4, .int (nI k16)), (3, .int x16_3), (0, .ref h0), (1, .ref a0), (2, .int (nI j))]) hx hb dX3_breaksBehind_28 hl (by decide) rfl (fun ls hl => ?_)
        have L_4 : ∀ (fu : Nat) (k30 : Nat) (x30_3 : Int32), k30 ≤ ql → ql - k30 < fu → ∀ (H : Heap) (locs : List Loc) (ls : Array Slot), gW D T A s [(h0, .inr (3, [.ref h1, .int qx, .int qy, .int (nI ql), .ref h2, .ref h3])), (h2, .inl (T 0, 10, .inl qp)), (h3, .inl (T 0, 12, .inl g_1)), (a0, .inr (5, [.int (nI an), .int am, .int al, .int ao, .int au, .ref a1, .ref a2, .ref a3, .ref a4, .ref a5, .ref a6, .ref a7, .ref a8, .ref a9, .ref a10])), (a1, .inl (T 0, 10, .inl af1)), (a2, .inl (T 0, 10, .inl af2)), (a3, .inl (T 0, 10, .inl af3)), (a4, .inl (T 0, 10, .inl af4)), (a5, .inl (T 0, 10, .inl af5)), (a9, .inl (T 0, 10, .inl af9))] H locs → lv_has ls 7 [(6, .int (nI k30)), (5, .int x16_3), (4, .int (nI k16)), (3, .int x30_3), (0, .ref h0), (1, .ref a0), (2, .int (nI j))] → W p l e (rmD 2 0 0) s m args below meth c H locs 0 0 (MQ below (gQ D A (q_h_breaks T h0 a0 j h1 qx qy ql h2 h3 qp qc an am al ao au a1 a2 a3 a4 a5 a6 a7 a8 a9 a10 af1 af2 af3 af4 af5 af9)) args s 0 0 A) (F0 m 30 ls []) := by
          intro fu_30
          induction fu_30 with
          | zero => intro k30 x30_3 hk30 hmu; exact absurd hmu (Nat.not_lt_zero _)
          | succ fu_30 ih_30 =>
            intro k30 x30_3 hk30 hmu_30 H locs ls V hl
            refine lv_iload hx hb dX3_breaksBehind_30 (lv_at hl 0 rfl) ?_
            refine lv_aload_n hx hb dX3_breaksBehind_32 rfl (lv_at hl 4 rfl) ?_
            refine g_get hC V (ci := 3) uwX3 0 rfl rfl 3 (by decide) w_189 rfl rfl dX3_breaksBehind_33 ?_
            refine lv_icmp_ge (tgt := 80) hx hb dX3_breaksBehind_36 (by decide) (fun c_5 => ?_) (fun c_5 => ?_)
            · skip
              have c_5 := b_le (by omega) (by omega) c_5
              refine lv_iload_n hx hb dX3_breaksBehind_80 rfl (lv_at hl 3 rfl) ?_
              refine lv_iload hx hb dX3_breaksBehind_81 (lv_at hl 1 rfl) ?_
              refine lv_icmp_ne (tgt := 88) hx hb dX3_breaksBehind_83 (by decide) (fun c_6 => ?_) (fun c_6 => ?_)
              · skip
                refine lv_iinc (v := (nI (k16 + 1))) (lv' := [(4, .int (nI (k16 + 1))), (6, .int (nI k30)), (5, .int x16_3), (3, .int x30_3), (0, .ref h0), (1, .ref a0), (2, .int (nI j))]) hx hb dX3_breaksBehind_88 hl (k := 2) rfl (nI_1 _) (by decide) rfl (fun ls hl => ?_)
                refine lv_goto (tgt := 16) hx hb dX3_breaksBehind_91 (by decide) ?_
                exact ih_16 (k16 + 1) x30_3 (by omega) (by omega) _ _ _ V (lv_sub hl [0, 3, 4, 5, 6] rfl)
              · skip
                refine lv_iconst (v := (-1)) hx hb dX3_breaksBehind_86 (by decide +kernel) ?_
                exact g_iret (Qr := (q_h_breaks T h0 a0 j h1 qx qy ql h2 h3 qp qc an am al ao au a1 a2 a3 a4 a5 a6 a7 a8 a9 a10 af1 af2 af3 af4 af5 af9)) hC V ⟨(Nat.le_of_ble_eq_true rfl), (Nat.le_of_ble_eq_true rfl)⟩ ⟨(-1), g_1, rfl, rfl⟩ dX3_breaksBehind_87
            · skip
              have c_5 := b_nle (by omega) (by omega) c_5
              refine lv_iload_n hx hb dX3_breaksBehind_39 rfl (lv_at hl 3 rfl) ?_
              refine lv_aload_n hx hb dX3_breaksBehind_40 rfl (lv_at hl 4 rfl) ?_
              refine g_get hC V (ci := 3) uwX3 0 rfl rfl 5 (by decide) w_191 rfl rfl dX3_breaksBehind_41 ?_
              refine lv_iload hx hb dX3_breaksBehind_44 (lv_at hl 0 rfl) ?_
              refine g_iald hC V 2 rfl (vp_in_nI (by omega) (by omega)) (v := (g_1 k30)) (congrArg _ (nI_clamp (by omega))) dX3_breaksBehind_46 ?_
              refine lv_iadd hx hb dX3_breaksBehind_47 ?_
              refine g_callSNU (nA := 1) (host := RX7) hC V hl.1 (c_bounded l D T (x30_3 + (g_1 k30))) w_489 (List.mem_of_getElem? (i := 9) rfl) w_2 w_488 (by decide +kernel) rfl ⟨(Nat.le_of_ble_eq_true rfl), (Nat.le_of_ble_eq_true rfl)⟩ [] rfl rfl (Nat.le_of_ble_eq_true rfl) dX3_breaksBehind_48 ⟨(Nat.le_of_ble_eq_true rfl), (Nat.le_of_ble_eq_true rfl)⟩ rfl (fun r w1 H locs hQ V => ?_)
              obtain ⟨z_7, rfl, rfl⟩ := hQ
              have V : gW D T A s [(h0, .inr (3, [.ref h1, .int qx, .int qy, .int (nI ql), .ref h2, .ref h3])), (h2, .inl (T 0, 10, .inl qp)), (h3, .inl (T 0, 12, .inl g_1)), (a0, .inr (5, [.int (nI an), .int am, .int al, .int ao, .int au, .ref a1, .ref a2, .ref a3, .ref a4, .ref a5, .ref a6, .ref a7, .ref a8, .ref a9, .ref a10])), (a1, .inl (T 0, 10, .inl af1)), (a2, .inl (T 0, 10, .inl af2)), (a3, .inl (T 0, 10, .inl af3)), (a4, .inl (T 0, 10, .inl af4)), (a5, .inl (T 0, 10, .inl af5)), (a9, .inl (T 0, 10, .inl af9))] H locs := V _ [] rfl rfl rfl (by decide +kernel) rfl
              show W p l e _ s m args below meth c H locs _ _ _ (F0 m 51 ls [.int z_7])
              refine lv_istore_n (lv' := [(3, .int z_7), (6, .int (nI k30)), (5, .int x16_3), (4, .int (nI k16)), (0, .ref h0), (1, .ref a0), (2, .int (nI j))]) hx hb dX3_breaksBehind_51 rfl hl (by decide) rfl (fun ls hl => ?_)
              refine lv_aload_n hx hb dX3_breaksBehind_52 rfl (lv_at hl 5 rfl) ?_
              refine lv_iload_n hx hb dX3_breaksBehind_53 rfl (lv_at hl 6 rfl) ?_
              refine lv_iload_n hx hb dX3_breaksBehind_54 rfl (lv_at hl 0 rfl) ?_
              refine g_callVU (nA := 2) hC V hl.1 (s_isWorkableAt l D T a0 j z_7 an am al ao au a1 a2 a3 a4 a5 a6 a7 a8 a9 a10 af4 af5 (by first | assumption | omega)) w_624 w_479 w_480 w_3 w_481 (by decide +kernel) rfl ⟨(Nat.le_of_ble_eq_true rfl), (Nat.le_of_ble_eq_true rfl)⟩ 3 (ci := 5) rfl rfl [3, 7, 8] rfl rfl (Nat.le_of_ble_eq_true rfl) dX3_breaksBehind_55 ⟨(Nat.le_of_ble_eq_true rfl), (Nat.le_of_ble_eq_true rfl)⟩ rfl (fun r w1 H locs hQ V => ?_)
              rcases hQ with ⟨rfl, rfl, f_8, f_9⟩ | ⟨rfl, rfl, f_10⟩
              · have V : gW D T A s [(h0, .inr (3, [.ref h1, .int qx, .int qy, .int (nI ql), .ref h2, .ref h3])), (h2, .inl (T 0, 10, .inl qp)), (h3, .inl (T 0, 12, .inl g_1)), (a0, .inr (5, [.int (nI an), .int am, .int al, .int ao, .int au, .ref a1, .ref a2, .ref a3, .ref a4, .ref a5, .ref a6, .ref a7, .ref a8, .ref a9, .ref a10])), (a1, .inl (T 0, 10, .inl af1)), (a2, .inl (T 0, 10, .inl af2)), (a3, .inl (T 0, 10, .inl af3)), (a4, .inl (T 0, 10, .inl af4)), (a5, .inl (T 0, 10, .inl af5)), (a9, .inl (T 0, 10, .inl af9))] H locs := V _ [3, 3, 0] rfl rfl rfl (by decide +kernel) rfl
                show W p l e _ s m args below meth c H locs _ _ _ (F0 m 58 ls [.int (nI 1)])
                refine lv_if_ne (tgt := 74) hx hb dX3_breaksBehind_58 (by decide) (fun _ => ?_) (fun c => absurd (show (nI 1) = 0 from c) (by decide +kernel))
                refine lv_iinc (v := (nI (k30 + 1))) (lv' := [(6, .int (nI (k30 + 1))), (3, .int z_7), (5, .int x16_3), (4, .int (nI k16)), (0, .ref h0), (1, .ref a0), (2, .int (nI j))]) hx hb dX3_breaksBehind_74 hl (k := 1) rfl (nI_1 _) (by decide) rfl (fun ls hl => ?_)
                refine lv_goto (tgt := 30) hx hb dX3_breaksBehind_77 (by decide) ?_
                exact ih_30 (k30 + 1) z_7 (by omega) (by omega) _ _ _ V (lv_sub hl [0, 2, 3, 1, 4, 5, 6] rfl)
              · have V : gW D T A s [(h0, .inr (3, [.ref h1, .int qx, .int qy, .int (nI ql), .ref h2, .ref h3])), (h2, .inl (T 0, 10, .inl qp)), (h3, .inl (T 0, 12, .inl g_1)), (a0, .inr (5, [.int (nI an), .int am, .int al, .int ao, .int au, .ref a1, .ref a2, .ref a3, .ref a4, .ref a5, .ref a6, .ref a7, .ref a8, .ref a9, .ref a10])), (a1, .inl (T 0, 10, .inl af1)), (a2, .inl (T 0, 10, .inl af2)), (a3, .inl (T 0, 10, .inl af3)), (a4, .inl (T 0, 10, .inl af4)), (a5, .inl (T 0, 10, .inl af5)), (a9, .inl (T 0, 10, .inl af9))] H locs := V _ [3, 3, 0] rfl rfl rfl (by decide +kernel) rfl
                show W p l e _ s m args below meth c H locs _ _ _ (F0 m 58 ls [.int (nI 0)])
                refine lv_if_ne (tgt := 74) hx hb dX3_breaksBehind_58 (by decide) (fun c => absurd (show (nI 0) = 0 by decide +kernel) c) (fun _ => ?_)
                refine lv_iload hx hb dX3_breaksBehind_61 (lv_at hl 3 rfl) ?_
                refine lv_aload_n hx hb dX3_breaksBehind_63 rfl (lv_at hl 4 rfl) ?_
                refine g_get hC V (ci := 3) uwX3 0 rfl rfl 3 (by decide) w_189 rfl rfl dX3_breaksBehind_64 ?_
                refine lv_imul hx hb dX3_breaksBehind_67 ?_
                refine g_vi (y := (nI (k16 * ql))) (pk_mul _ _) ?_
                refine lv_iload hx hb dX3_breaksBehind_68 (lv_at hl 1 rfl) ?_
                refine lv_iadd hx hb dX3_breaksBehind_70 ?_
                refine g_vi (y := (nI ((k16 * ql) + k30))) (nI_add _ _) ?_
                refine lv_iconst (v := (nI 1)) hx hb dX3_breaksBehind_71 (by decide +kernel) ?_
                refine lv_iadd hx hb dX3_breaksBehind_72 ?_
                refine g_vi (y := (nI (((k16 * ql) + k30) + 1))) (nI_add _ _) ?_
                exact g_iret (Qr := (q_h_breaks T h0 a0 j h1 qx qy ql h2 h3 qp qc an am al ao au a1 a2 a3 a4 a5 a6 a7 a8 a9 a10 af1 af2 af3 af4 af5 af9)) hC V ⟨(Nat.le_of_ble_eq_true rfl), (Nat.le_of_ble_eq_true rfl)⟩ ⟨(nI (((k16 * ql) + k30) + 1)), g_1, rfl, rfl⟩ dX3_breaksBehind_73
        exact L_4 _ 0 x16_3 (by omega) (Nat.lt_succ_self _) _ _ _ V (lv_sub hl [0, 1, 2, 3, 4, 5, 6] rfl)
  exact L_2 _ 0 (af3 j) (by omega) (Nat.lt_succ_self _) _ _ _ V (lv_sub hl [0, 1, 2, 3, 4] rfl)

def q_h_holdAll (T : Nat → ClassId) (h0 : Nat) (a0 : Nat) (h1 : Nat) (qx : Int32) (qy : Int32) (ql : Nat) (h2 : Nat) (h3 : Nat) (qp : Nat → Int32) (qc : Nat → Int32) (an : Nat) (am : Int32) (al : Int32) (ao : Int32) (au : Int32) (a1 : Nat) (a2 : Nat) (a3 : Nat) (a4 : Nat) (a5 : Nat) (a6 : Nat) (a7 : Nat) (a8 : Nat) (a9 : Nat) (a10 : Nat) (af1 : Nat → Int32) (af2 : Nat → Int32) (af3 : Nat → Int32) (af4 : Nat → Int32) (af5 : Nat → Int32) (af9 : Nat → Int32) : Option Value → va_W → Prop := fun rr ww => (∃ (g : Nat → Int32), rr = some (.int (nI 1)) ∧ ww = [(h0, .inr (3, [.ref h1, .int qx, .int qy, .int (nI ql), .ref h2, .ref h3])), (h2, .inl (T 0, 10, .inl qp)), (h3, .inl (T 0, 12, .inl g)), (a0, .inr (5, [.int (nI an), .int am, .int al, .int ao, .int au, .ref a1, .ref a2, .ref a3, .ref a4, .ref a5, .ref a6, .ref a7, .ref a8, .ref a9, .ref a10])), (a1, .inl (T 0, 10, .inl af1)), (a2, .inl (T 0, 10, .inl af2)), (a3, .inl (T 0, 10, .inl af3)), (a4, .inl (T 0, 10, .inl af4)), (a5, .inl (T 0, 10, .inl af5)), (a9, .inl (T 0, 10, .inl af9))]) ∨ (∃ (g : Nat → Int32), rr = some (.int (nI 0)) ∧ ww = [(h0, .inr (3, [.ref h1, .int qx, .int qy, .int (nI ql), .ref h2, .ref h3])), (h2, .inl (T 0, 10, .inl qp)), (h3, .inl (T 0, 12, .inl g)), (a0, .inr (5, [.int (nI an), .int am, .int al, .int ao, .int au, .ref a1, .ref a2, .ref a3, .ref a4, .ref a5, .ref a6, .ref a7, .ref a8, .ref a9, .ref a10])), (a1, .inl (T 0, 10, .inl af1)), (a2, .inl (T 0, 10, .inl af2)), (a3, .inl (T 0, 10, .inl af3)), (a4, .inl (T 0, 10, .inl af4)), (a5, .inl (T 0, 10, .inl af5)), (a9, .inl (T 0, 10, .inl af9))])
set_option maxHeartbeats 4000000 in
set_option maxRecDepth 100000 in
theorem h_holdAll (l : Launch) (D : va_G) (T : Nat → ClassId) (h0 : Nat) (a0 : Nat) (h1 : Nat) (qx : Int32) (qy : Int32) (ql : Nat) (h2 : Nat) (h3 : Nat) (qp : Nat → Int32) (qc : Nat → Int32) (an : Nat) (am : Int32) (al : Int32) (ao : Int32) (au : Int32) (a1 : Nat) (a2 : Nat) (a3 : Nat) (a4 : Nat) (a5 : Nat) (a6 : Nat) (a7 : Nat) (a8 : Nat) (a9 : Nat) (a10 : Nat) (af1 : Nat → Int32) (af2 : Nat → Int32) (af3 : Nat → Int32) (af4 : Nat → Int32) (af5 : Nat → Int32) (af9 : Nat → Int32) (h_n : an ≤ 10) (h_l : 1 ≤ ql ∧ ql ≤ 12) : Ct l yX3_holdAll cX3_holdAll 3 (some .boolean) 3 0 0 D T [.ref h0, .ref a0] [(h0, .inr (3, [.ref h1, .int qx, .int qy, .int (nI ql), .ref h2, .ref h3])), (h2, .inl (T 0, 10, .inl qp)), (h3, .inl (T 0, 12, .inl qc)), (a0, .inr (5, [.int (nI an), .int am, .int al, .int ao, .int au, .ref a1, .ref a2, .ref a3, .ref a4, .ref a5, .ref a6, .ref a7, .ref a8, .ref a9, .ref a10])), (a1, .inl (T 0, 10, .inl af1)), (a2, .inl (T 0, 10, .inl af2)), (a3, .inl (T 0, 10, .inl af3)), (a4, .inl (T 0, 10, .inl af4)), (a5, .inl (T 0, 10, .inl af5)), (a9, .inl (T 0, 10, .inl af9))] (q_h_holdAll T h0 a0 h1 qx qy ql h2 h3 qp qc an am al ao au a1 a2 a3 a4 a5 a6 a7 a8 a9 a10 af1 af2 af3 af4 af5 af9) := by
  refine Ct.of (cc := cX3_holdAll) (maxL := 3) (ret := (some .boolean)) (by decide) (Nat.le_of_ble_eq_true rfl) ?_
  intro p e s m args below meth c A ls hC hnm V hl
  obtain ⟨hx, hb, hr, hml, hown, hts, hlocks⟩ := id hC
  generalize hH : s.heap = H at V ⊢
  clear hH
  have hl : lv_has ls 3 [(0, .ref h0), (1, .ref a0)] := hl
  generalize hlo : ([] : List Loc) = locs at V ⊢
  clear hlo
  refine lv_iconst (v := (nI 0)) hx hb dX3_holdAll_0 (by decide +kernel) ?_
  refine lv_istore_n (lv' := [(2, .int (nI 0)), (0, .ref h0), (1, .ref a0)]) hx hb dX3_holdAll_1 rfl hl (by decide) rfl (fun ls hl => ?_)
  have L_1 : ∀ (fu : Nat) (k2 : Nat) (ga : Nat → Int32), k2 ≤ an → an - k2 < fu → ∀ (H : Heap) (locs : List Loc) (ls : Array Slot), gW D T A s [(h0, .inr (3, [.ref h1, .int qx, .int qy, .int (nI ql), .ref h2, .ref h3])), (h2, .inl (T 0, 10, .inl qp)), (h3, .inl (T 0, 12, .inl ga)), (a0, .inr (5, [.int (nI an), .int am, .int al, .int ao, .int au, .ref a1, .ref a2, .ref a3, .ref a4, .ref a5, .ref a6, .ref a7, .ref a8, .ref a9, .ref a10])), (a1, .inl (T 0, 10, .inl af1)), (a2, .inl (T 0, 10, .inl af2)), (a3, .inl (T 0, 10, .inl af3)), (a4, .inl (T 0, 10, .inl af4)), (a5, .inl (T 0, 10, .inl af5)), (a9, .inl (T 0, 10, .inl af9))] H locs → lv_has ls 3 [(2, .int (nI k2)), (0, .ref h0), (1, .ref a0)] → W p l e (rmD 3 0 0) s m args below meth c H locs 0 0 (MQ below (gQ D A (q_h_holdAll T h0 a0 h1 qx qy ql h2 h3 qp qc an am al ao au a1 a2 a3 a4 a5 a6 a7 a8 a9 a10 af1 af2 af3 af4 af5 af9)) args s 0 0 A) (F0 m 2 ls []) := by
    intro fu_2
    induction fu_2 with
    | zero => intro k2 ga hk2 hmu; exact absurd hmu (Nat.not_lt_zero _)
    | succ fu_2 ih_2 =>
      intro k2 ga hk2 hmu_2 H locs ls V hl
      refine lv_iload_n hx hb dX3_holdAll_2 rfl (lv_at hl 0 rfl) ?_
      refine lv_aload_n hx hb dX3_holdAll_3 rfl (lv_at hl 2 rfl) ?_
      refine g_get hC V (ci := 5) uwX5 3 rfl rfl 0 (by decide) w_37 rfl rfl dX3_holdAll_4 ?_
      refine lv_icmp_ge (tgt := 28) hx hb dX3_holdAll_7 (by decide) (fun c_2 => ?_) (fun c_2 => ?_)
      · skip
        have c_2 := b_le (by omega) (by omega) c_2
        refine lv_iconst (v := (nI 1)) hx hb dX3_holdAll_28 (by decide +kernel) ?_
        exact g_zret (Qr := (q_h_holdAll T h0 a0 h1 qx qy ql h2 h3 qp qc an am al ao au a1 a2 a3 a4 a5 a6 a7 a8 a9 a10 af1 af2 af3 af4 af5 af9)) hC V ⟨(Nat.le_of_ble_eq_true rfl), (Nat.le_of_ble_eq_true rfl)⟩ (by first | decide +kernel | exact rfl) (.inl ⟨ga, rfl, rfl⟩) dX3_holdAll_29
      · skip
        have c_2 := b_nle (by omega) (by omega) c_2
        refine lv_aload_n hx hb dX3_holdAll_10 rfl (lv_at hl 1 rfl) ?_
        refine lv_aload_n hx hb dX3_holdAll_11 rfl (lv_at hl 2 rfl) ?_
        refine lv_iload_n hx hb dX3_holdAll_12 rfl (lv_at hl 0 rfl) ?_
        refine g_callV (wr := []) (nA := 2) hC V hl.1 (h_breaks l D T h0 a0 k2 h1 qx qy ql h2 h3 qp ga an am al ao au a1 a2 a3 a4 a5 a6 a7 a8 a9 a10 af1 af2 af3 af4 af5 af9 (by first | assumption | omega) (by first | assumption | omega) (by first | assumption | omega)) w_614 w_616 w_s18 w_6 w_617 (by decide +kernel) rfl ⟨(Nat.le_of_ble_eq_true rfl), (Nat.le_of_ble_eq_true rfl)⟩ 0 (ci := 3) rfl rfl [0, 1, 2, 3, 4, 5, 6, 7, 8, 9] [] rfl rfl rfl rfl (by decide) (Nat.le_of_ble_eq_true rfl) dX3_holdAll_13 ⟨(Nat.le_of_ble_eq_true rfl), (Nat.le_of_ble_eq_true rfl)⟩ rfl (fun r w1 H locs hQ V => ?_)
        obtain ⟨z_3, g_4, rfl, rfl⟩ := hQ
        have V : gW D T A s [(h0, .inr (3, [.ref h1, .int qx, .int qy, .int (nI ql), .ref h2, .ref h3])), (h2, .inl (T 0, 10, .inl qp)), (h3, .inl (T 0, 12, .inl g_4)), (a0, .inr (5, [.int (nI an), .int am, .int al, .int ao, .int au, .ref a1, .ref a2, .ref a3, .ref a4, .ref a5, .ref a6, .ref a7, .ref a8, .ref a9, .ref a10])), (a1, .inl (T 0, 10, .inl af1)), (a2, .inl (T 0, 10, .inl af2)), (a3, .inl (T 0, 10, .inl af3)), (a4, .inl (T 0, 10, .inl af4)), (a5, .inl (T 0, 10, .inl af5)), (a9, .inl (T 0, 10, .inl af9))] H locs := V
        show W p l e _ s m args below meth c H locs _ _ _ (F0 m 16 ls [.int z_3])
        refine lv_iconst (v := (-1)) hx hb dX3_holdAll_16 (by decide +kernel) ?_
        refine lv_icmp_eq (tgt := 22) hx hb dX3_holdAll_17 (by decide) (fun c_5 => ?_) (fun c_5 => ?_)
        · skip
          refine lv_iinc (v := (nI (k2 + 1))) (lv' := [(2, .int (nI (k2 + 1))), (0, .ref h0), (1, .ref a0)]) hx hb dX3_holdAll_22 hl (k := 0) rfl (nI_1 _) (by decide) rfl (fun ls hl => ?_)
          refine lv_goto (tgt := 2) hx hb dX3_holdAll_25 (by decide) ?_
          exact ih_2 (k2 + 1) g_4 (by omega) (by omega) _ _ _ V (lv_sub hl [0, 1, 2] rfl)
        · skip
          refine lv_iconst (v := (nI 0)) hx hb dX3_holdAll_20 (by decide +kernel) ?_
          exact g_zret (Qr := (q_h_holdAll T h0 a0 h1 qx qy ql h2 h3 qp qc an am al ao au a1 a2 a3 a4 a5 a6 a7 a8 a9 a10 af1 af2 af3 af4 af5 af9)) hC V ⟨(Nat.le_of_ble_eq_true rfl), (Nat.le_of_ble_eq_true rfl)⟩ (by first | decide +kernel | exact rfl) (.inr ⟨g_4, rfl, rfl⟩) dX3_holdAll_21
  exact L_1 _ 0 qc (by omega) (Nat.lt_succ_self _) _ _ _ V (lv_sub hl [0, 1, 2] rfl)

def q_h_seekBest (T : Nat → ClassId) (h0 : Nat) (a0 : Nat) (le : Nat) (h1 : Nat) (qx : Int32) (qy : Int32) (ql : Int32) (h2 : Nat) (h3 : Nat) (qb : Nat → Int32) (qp : Nat → Int32) (qc : Nat → Int32) (an : Nat) (am : Int32) (al : Int32) (ao : Int32) (au : Int32) (a1 : Nat) (a2 : Nat) (a3 : Nat) (a4 : Nat) (a5 : Nat) (a6 : Nat) (a7 : Nat) (a8 : Nat) (a9 : Nat) (a10 : Nat) (af1 : Nat → Int32) (af2 : Nat → Int32) (af3 : Nat → Int32) (af4 : Nat → Int32) (af5 : Nat → Int32) (af9 : Nat → Int32) : Option Value → va_W → Prop := fun rr ww => (∃ (z : Int32) (g1 : Nat → Int32) (g2 : Nat → Int32) (g3 : Nat → Int32), rr = some (.int z) ∧ ww = [(h0, .inr (3, [.ref h1, .int qx, .int qy, .int (nI le), .ref h2, .ref h3])), (h1, .inl (T 0, 10, .inl g1)), (h2, .inl (T 0, 10, .inl g2)), (h3, .inl (T 0, 12, .inl g3)), (a0, .inr (5, [.int (nI an), .int am, .int al, .int ao, .int au, .ref a1, .ref a2, .ref a3, .ref a4, .ref a5, .ref a6, .ref a7, .ref a8, .ref a9, .ref a10])), (a1, .inl (T 0, 10, .inl af1)), (a2, .inl (T 0, 10, .inl af2)), (a3, .inl (T 0, 10, .inl af3)), (a4, .inl (T 0, 10, .inl af4)), (a5, .inl (T 0, 10, .inl af5)), (a9, .inl (T 0, 10, .inl af9))])
set_option maxHeartbeats 4000000 in
set_option maxRecDepth 100000 in
theorem h_seekBest (l : Launch) (D : va_G) (T : Nat → ClassId) (h0 : Nat) (a0 : Nat) (le : Nat) (h1 : Nat) (qx : Int32) (qy : Int32) (ql : Int32) (h2 : Nat) (h3 : Nat) (qb : Nat → Int32) (qp : Nat → Int32) (qc : Nat → Int32) (an : Nat) (am : Int32) (al : Int32) (ao : Int32) (au : Int32) (a1 : Nat) (a2 : Nat) (a3 : Nat) (a4 : Nat) (a5 : Nat) (a6 : Nat) (a7 : Nat) (a8 : Nat) (a9 : Nat) (a10 : Nat) (af1 : Nat → Int32) (af2 : Nat → Int32) (af3 : Nat → Int32) (af4 : Nat → Int32) (af5 : Nat → Int32) (af9 : Nat → Int32) (h_n : an ≤ 10) (h_l : 1 ≤ le ∧ le ≤ 12) (h_m : an * le ≤ 10) : Ct l yX3_seekBestRound cX3_seekBestRound 7 (some .int) 4 0 0 D T [.ref h0, .ref a0, .int (nI le)] [(h0, .inr (3, [.ref h1, .int qx, .int qy, .int ql, .ref h2, .ref h3])), (h1, .inl (T 0, 10, .inl qb)), (h2, .inl (T 0, 10, .inl qp)), (h3, .inl (T 0, 12, .inl qc)), (a0, .inr (5, [.int (nI an), .int am, .int al, .int ao, .int au, .ref a1, .ref a2, .ref a3, .ref a4, .ref a5, .ref a6, .ref a7, .ref a8, .ref a9, .ref a10])), (a1, .inl (T 0, 10, .inl af1)), (a2, .inl (T 0, 10, .inl af2)), (a3, .inl (T 0, 10, .inl af3)), (a4, .inl (T 0, 10, .inl af4)), (a5, .inl (T 0, 10, .inl af5)), (a9, .inl (T 0, 10, .inl af9))] (q_h_seekBest T h0 a0 le h1 qx qy ql h2 h3 qb qp qc an am al ao au a1 a2 a3 a4 a5 a6 a7 a8 a9 a10 af1 af2 af3 af4 af5 af9) := by
  refine Ct.of (cc := cX3_seekBestRound) (maxL := 7) (ret := (some .int)) (by decide) (Nat.le_of_ble_eq_true rfl) ?_
  intro p e s m args below meth c A ls hC hnm V hl
  obtain ⟨hx, hb, hr, hml, hown, hts, hlocks⟩ := id hC
  generalize hH : s.heap = H at V ⊢
  clear hH
  have hl : lv_has ls 7 [(0, .ref h0), (1, .ref a0), (2, .int (nI le))] := hl
  generalize hlo : ([] : List Loc) = locs at V ⊢
  clear hlo
  have hpw := pw10 h_m
  refine lv_aload_n hx hb dX3_seekBestRound_0 rfl (lv_at hl 0 rfl) ?_
  refine lv_iload_n hx hb dX3_seekBestRound_1 rfl (lv_at hl 2 rfl) ?_
  refine g_put hC V (ci := 3) uwX3 tyX3 tyX3_ok nmX3 0 rfl rfl 3 (by decide) w_189 rfl rfl rfl rfl (Nat.le_of_ble_eq_true rfl) (ws' := [(h0, .inr (3, [.ref h1, .int qx, .int qy, .int (nI le), .ref h2, .ref h3])), (h1, .inl (T 0, 10, .inl qb)), (h2, .inl (T 0, 10, .inl qp)), (h3, .inl (T 0, 12, .inl qc)), (a0, .inr (5, [.int (nI an), .int am, .int al, .int ao, .int au, .ref a1, .ref a2, .ref a3, .ref a4, .ref a5, .ref a6, .ref a7, .ref a8, .ref a9, .ref a10])), (a1, .inl (T 0, 10, .inl af1)), (a2, .inl (T 0, 10, .inl af2)), (a3, .inl (T 0, 10, .inl af3)), (a4, .inl (T 0, 10, .inl af4)), (a5, .inl (T 0, 10, .inl af5)), (a9, .inl (T 0, 10, .inl af9))]) rfl dX3_seekBestRound_2 (fun H locs V => ?_)
  refine lv_iconst (v := (-1)) hx hb dX3_seekBestRound_5 (by decide +kernel) ?_
  refine lv_istore_n (lv' := [(3, .int (-1)), (0, .ref h0), (1, .ref a0), (2, .int (nI le))]) hx hb dX3_seekBestRound_6 rfl hl (by decide) rfl (fun ls hl => ?_)
  refine lv_iconst (v := (nI 0)) hx hb dX3_seekBestRound_7 (by decide +kernel) ?_
  refine lv_istore (lv' := [(4, .int (nI 0)), (3, .int (-1)), (0, .ref h0), (1, .ref a0), (2, .int (nI le))]) hx hb dX3_seekBestRound_8 hl (by decide) rfl (fun ls hl => ?_)
  have L_1 : ∀ (fu : Nat) (k10 : Nat) (x10_3 : Int32) (ga : Nat → Int32) (gb : Nat → Int32) (gc : Nat → Int32), k10 ≤ 2 ^ (an * le) → 2 ^ (an * le) - k10 < fu → ∀ (H : Heap) (locs : List Loc) (ls : Array Slot), gW D T A s [(h0, .inr (3, [.ref h1, .int qx, .int qy, .int (nI le), .ref h2, .ref h3])), (h1, .inl (T 0, 10, .inl ga)), (h2, .inl (T 0, 10, .inl gb)), (h3, .inl (T 0, 12, .inl gc)), (a0, .inr (5, [.int (nI an), .int am, .int al, .int ao, .int au, .ref a1, .ref a2, .ref a3, .ref a4, .ref a5, .ref a6, .ref a7, .ref a8, .ref a9, .ref a10])), (a1, .inl (T 0, 10, .inl af1)), (a2, .inl (T 0, 10, .inl af2)), (a3, .inl (T 0, 10, .inl af3)), (a4, .inl (T 0, 10, .inl af4)), (a5, .inl (T 0, 10, .inl af5)), (a9, .inl (T 0, 10, .inl af9))] H locs → lv_has ls 7 [(4, .int (nI k10)), (3, .int x10_3), (0, .ref h0), (1, .ref a0), (2, .int (nI le))] → W p l e (rmD 4 0 0) s m args below meth c H locs 0 0 (MQ below (gQ D A (q_h_seekBest T h0 a0 le h1 qx qy ql h2 h3 qb qp qc an am al ao au a1 a2 a3 a4 a5 a6 a7 a8 a9 a10 af1 af2 af3 af4 af5 af9)) args s 0 0 A) (F0 m 10 ls []) := by
    intro fu_10
    induction fu_10 with
    | zero => intro k10 x10_3 ga gb gc hk10 hmu; exact absurd hmu (Nat.not_lt_zero _)
    | succ fu_10 ih_10 =>
      intro k10 x10_3 ga gb gc hk10 hmu_10 H locs ls V hl
      refine lv_iload hx hb dX3_seekBestRound_10 (lv_at hl 0 rfl) ?_
      refine lv_iconst (v := (nI 1)) hx hb dX3_seekBestRound_12 (by decide +kernel) ?_
      refine lv_aload_n hx hb dX3_seekBestRound_13 rfl (lv_at hl 3 rfl) ?_
      refine g_get hC V (ci := 5) uwX5 4 rfl rfl 0 (by decide) w_37 rfl rfl dX3_seekBestRound_14 ?_
      refine lv_aload_n hx hb dX3_seekBestRound_17 rfl (lv_at hl 2 rfl) ?_
      refine g_get hC V (ci := 3) uwX3 0 rfl rfl 3 (by decide) w_189 rfl rfl dX3_seekBestRound_18 ?_
      refine lv_imul hx hb dX3_seekBestRound_21 ?_
      refine g_vi (y := (nI (an * le))) (pk_mul _ _) ?_
      refine lv_ishl hx hb dX3_seekBestRound_22 ?_
      refine g_vi (y := (nI (2 ^ (an * le)))) (shl_pow (by omega)) ?_
      refine lv_icmp_ge (tgt := 126) hx hb dX3_seekBestRound_23 (by decide) (fun c_2 => ?_) (fun c_2 => ?_)
      · skip
        have c_2 := b_le (by omega) (by omega) c_2
        refine lv_iload_n hx hb dX3_seekBestRound_126 rfl (lv_at hl 1 rfl) ?_
        exact g_iret (Qr := (q_h_seekBest T h0 a0 le h1 qx qy ql h2 h3 qb qp qc an am al ao au a1 a2 a3 a4 a5 a6 a7 a8 a9 a10 af1 af2 af3 af4 af5 af9)) hC V ⟨(Nat.le_of_ble_eq_true rfl), (Nat.le_of_ble_eq_true rfl)⟩ ⟨x10_3, ga, gb, gc, rfl, rfl⟩ dX3_seekBestRound_127
      · skip
        have c_2 := b_nle (by omega) (by omega) c_2
        refine lv_iload hx hb dX3_seekBestRound_26 (lv_at hl 0 rfl) ?_
        refine g_callSU (nA := 1) hC V hl.1 (c_bitCount l D T (nI k10)) w_660 w_661 w_16 w_662 (by decide +kernel) rfl ⟨(Nat.le_of_ble_eq_true rfl), (Nat.le_of_ble_eq_true rfl)⟩ [] rfl rfl (Nat.le_of_ble_eq_true rfl) dX3_seekBestRound_28 ⟨(Nat.le_of_ble_eq_true rfl), (Nat.le_of_ble_eq_true rfl)⟩ rfl (fun r w1 H locs hQ V => ?_)
        obtain ⟨z_3, rfl, rfl⟩ := hQ
        have V : gW D T A s [(h0, .inr (3, [.ref h1, .int qx, .int qy, .int (nI le), .ref h2, .ref h3])), (h1, .inl (T 0, 10, .inl ga)), (h2, .inl (T 0, 10, .inl gb)), (h3, .inl (T 0, 12, .inl gc)), (a0, .inr (5, [.int (nI an), .int am, .int al, .int ao, .int au, .ref a1, .ref a2, .ref a3, .ref a4, .ref a5, .ref a6, .ref a7, .ref a8, .ref a9, .ref a10])), (a1, .inl (T 0, 10, .inl af1)), (a2, .inl (T 0, 10, .inl af2)), (a3, .inl (T 0, 10, .inl af3)), (a4, .inl (T 0, 10, .inl af4)), (a5, .inl (T 0, 10, .inl af5)), (a9, .inl (T 0, 10, .inl af9))] H locs := V _ [] rfl rfl rfl (by decide +kernel) rfl
        show W p l e _ s m args below meth c H locs _ _ _ (F0 m 31 ls [.int z_3])
        refine lv_istore (lv' := [(5, .int z_3), (4, .int (nI k10)), (3, .int x10_3), (0, .ref h0), (1, .ref a0), (2, .int (nI le))]) hx hb dX3_seekBestRound_31 hl (by decide) rfl (fun ls hl => ?_)
        refine lv_iload_n hx hb dX3_seekBestRound_33 rfl (lv_at hl 2 rfl) ?_
        refine lv_iconst (v := (-1)) hx hb dX3_seekBestRound_34 (by decide +kernel) ?_
        refine lv_icmp_eq (tgt := 47) hx hb dX3_seekBestRound_35 (by decide) (fun c_4 => ?_) (fun c_4 => ?_)
        · skip
          refine lv_iconst (v := (nI 0)) hx hb dX3_seekBestRound_47 (by decide +kernel) ?_
          refine lv_istore (lv' := [(6, .int (nI 0)), (5, .int z_3), (4, .int (nI k10)), (3, .int x10_3), (0, .ref h0), (1, .ref a0), (2, .int (nI le))]) hx hb dX3_seekBestRound_48 hl (by decide) rfl (fun ls hl => ?_)
          have L_5 : ∀ (fu : Nat) (k50 : Nat) (gd : Nat → Int32), k50 ≤ an → an - k50 < fu → ∀ (H : Heap) (locs : List Loc) (ls : Array Slot), gW D T A s [(h0, .inr (3, [.ref h1, .int qx, .int qy, .int (nI le), .ref h2, .ref h3])), (h1, .inl (T 0, 10, .inl ga)), (h2, .inl (T 0, 10, .inl gd)), (h3, .inl (T 0, 12, .inl gc)), (a0, .inr (5, [.int (nI an), .int am, .int al, .int ao, .int au, .ref a1, .ref a2, .ref a3, .ref a4, .ref a5, .ref a6, .ref a7, .ref a8, .ref a9, .ref a10])), (a1, .inl (T 0, 10, .inl af1)), (a2, .inl (T 0, 10, .inl af2)), (a3, .inl (T 0, 10, .inl af3)), (a4, .inl (T 0, 10, .inl af4)), (a5, .inl (T 0, 10, .inl af5)), (a9, .inl (T 0, 10, .inl af9))] H locs → lv_has ls 7 [(6, .int (nI k50)), (5, .int z_3), (4, .int (nI k10)), (3, .int x10_3), (0, .ref h0), (1, .ref a0), (2, .int (nI le))] → W p l e (rmD 4 0 0) s m args below meth c H locs 0 0 (MQ below (gQ D A (q_h_seekBest T h0 a0 le h1 qx qy ql h2 h3 qb qp qc an am al ao au a1 a2 a3 a4 a5 a6 a7 a8 a9 a10 af1 af2 af3 af4 af5 af9)) args s 0 0 A) (F0 m 50 ls []) := by
            intro fu_50
            induction fu_50 with
            | zero => intro k50 gd hk50 hmu; exact absurd hmu (Nat.not_lt_zero _)
            | succ fu_50 ih_50 =>
              intro k50 gd hk50 hmu_50 H locs ls V hl
              refine lv_iload hx hb dX3_seekBestRound_50 (lv_at hl 0 rfl) ?_
              refine lv_aload_n hx hb dX3_seekBestRound_52 rfl (lv_at hl 5 rfl) ?_
              refine g_get hC V (ci := 5) uwX5 4 rfl rfl 0 (by decide) w_37 rfl rfl dX3_seekBestRound_53 ?_
              refine lv_icmp_ge (tgt := 94) hx hb dX3_seekBestRound_56 (by decide) (fun c_6 => ?_) (fun c_6 => ?_)
              · skip
                have c_6 := b_le (by omega) (by omega) c_6
                refine lv_aload_n hx hb dX3_seekBestRound_94 rfl (lv_at hl 4 rfl) ?_
                refine lv_aload_n hx hb dX3_seekBestRound_95 rfl (lv_at hl 5 rfl) ?_
                refine g_callVU (nA := 1) hC V hl.1 (h_holdAll l D T h0 a0 h1 qx qy le h2 h3 gd gc an am al ao au a1 a2 a3 a4 a5 a6 a7 a8 a9 a10 af1 af2 af3 af4 af5 af9 (by first | assumption | omega) (by first | assumption | omega)) w_666 w_668 w_s21 w_6 w_669 (by decide +kernel) rfl ⟨(Nat.le_of_ble_eq_true rfl), (Nat.le_of_ble_eq_true rfl)⟩ 0 (ci := 3) rfl rfl [0, 2, 3, 4, 5, 6, 7, 8, 9, 10] rfl rfl (Nat.le_of_ble_eq_true rfl) dX3_seekBestRound_96 ⟨(Nat.le_of_ble_eq_true rfl), (Nat.le_of_ble_eq_true rfl)⟩ rfl (fun r w1 H locs hQ V => ?_)
                rcases hQ with ⟨g_7, rfl, rfl⟩ | ⟨g_8, rfl, rfl⟩
                · have V : gW D T A s [(h0, .inr (3, [.ref h1, .int qx, .int qy, .int (nI le), .ref h2, .ref h3])), (h1, .inl (T 0, 10, .inl ga)), (h2, .inl (T 0, 10, .inl gd)), (h3, .inl (T 0, 12, .inl g_7)), (a0, .inr (5, [.int (nI an), .int am, .int al, .int ao, .int au, .ref a1, .ref a2, .ref a3, .ref a4, .ref a5, .ref a6, .ref a7, .ref a8, .ref a9, .ref a10])), (a1, .inl (T 0, 10, .inl af1)), (a2, .inl (T 0, 10, .inl af2)), (a3, .inl (T 0, 10, .inl af3)), (a4, .inl (T 0, 10, .inl af4)), (a5, .inl (T 0, 10, .inl af5)), (a9, .inl (T 0, 10, .inl af9))] H locs := V _ [0, 1, 0, 0, 0, 0, 0, 0, 0, 0] rfl rfl rfl (by decide +kernel) rfl
                  show W p l e _ s m args below meth c H locs _ _ _ (F0 m 99 ls [.int (nI 1)])
                  refine lv_if_eq (tgt := 120) hx hb dX3_seekBestRound_99 (by decide) (fun c => absurd (show (nI 1) = 0 from c) (by decide +kernel)) (fun _ => ?_)
                  refine lv_iload hx hb dX3_seekBestRound_102 (lv_at hl 1 rfl) ?_
                  refine lv_istore_n (lv' := [(3, .int z_3), (6, .int (nI k50)), (5, .int z_3), (4, .int (nI k10)), (0, .ref h0), (1, .ref a0), (2, .int (nI le))]) hx hb dX3_seekBestRound_104 rfl hl (by decide) rfl (fun ls hl => ?_)
                  refine lv_aload_n hx hb dX3_seekBestRound_105 rfl (lv_at hl 4 rfl) ?_
                  refine g_get hC V (ci := 3) uwX3 0 rfl rfl 4 (by decide) w_190 rfl rfl dX3_seekBestRound_106 ?_
                  refine lv_iconst (v := (nI 0)) hx hb dX3_seekBestRound_109 (by decide +kernel) ?_
                  refine lv_aload_n hx hb dX3_seekBestRound_110 rfl (lv_at hl 4 rfl) ?_
                  refine g_get hC V (ci := 3) uwX3 0 rfl rfl 0 (by decide) w_183 rfl rfl dX3_seekBestRound_111 ?_
                  refine lv_iconst (v := (nI 0)) hx hb dX3_seekBestRound_114 (by decide +kernel) ?_
                  refine lv_bipush (v := (nI 10)) hx hb dX3_seekBestRound_115 (by decide +kernel) ?_
                  refine g_copyi hC V hl.1 w_670 w_672 w_671 w_17 2 1 rfl rfl (by decide +kernel) (by decide +kernel) (Nat.le_of_ble_eq_true rfl) (Nat.le_of_ble_eq_true rfl) (Nat.le_of_ble_eq_true rfl) dX3_seekBestRound_117 (fun g_9 H locs V => ?_)
                  have V : gW D T A s [(h0, .inr (3, [.ref h1, .int qx, .int qy, .int (nI le), .ref h2, .ref h3])), (h1, .inl (T 0, 10, .inl g_9)), (h2, .inl (T 0, 10, .inl gd)), (h3, .inl (T 0, 12, .inl g_7)), (a0, .inr (5, [.int (nI an), .int am, .int al, .int ao, .int au, .ref a1, .ref a2, .ref a3, .ref a4, .ref a5, .ref a6, .ref a7, .ref a8, .ref a9, .ref a10])), (a1, .inl (T 0, 10, .inl af1)), (a2, .inl (T 0, 10, .inl af2)), (a3, .inl (T 0, 10, .inl af3)), (a4, .inl (T 0, 10, .inl af4)), (a5, .inl (T 0, 10, .inl af5)), (a9, .inl (T 0, 10, .inl af9))] H locs := V
                  refine lv_iinc (v := (nI (k10 + 1))) (lv' := [(4, .int (nI (k10 + 1))), (3, .int z_3), (6, .int (nI k50)), (5, .int z_3), (0, .ref h0), (1, .ref a0), (2, .int (nI le))]) hx hb dX3_seekBestRound_120 hl (k := 3) rfl (nI_1 _) (by decide) rfl (fun ls hl => ?_)
                  refine lv_goto (tgt := 10) hx hb dX3_seekBestRound_123 (by decide) ?_
                  exact ih_10 (k10 + 1) z_3 g_9 gd g_7 (by omega) (by omega) _ _ _ V (lv_sub hl [0, 1, 4, 5, 6] rfl)
                · have V : gW D T A s [(h0, .inr (3, [.ref h1, .int qx, .int qy, .int (nI le), .ref h2, .ref h3])), (h1, .inl (T 0, 10, .inl ga)), (h2, .inl (T 0, 10, .inl gd)), (h3, .inl (T 0, 12, .inl g_8)), (a0, .inr (5, [.int (nI an), .int am, .int al, .int ao, .int au, .ref a1, .ref a2, .ref a3, .ref a4, .ref a5, .ref a6, .ref a7, .ref a8, .ref a9, .ref a10])), (a1, .inl (T 0, 10, .inl af1)), (a2, .inl (T 0, 10, .inl af2)), (a3, .inl (T 0, 10, .inl af3)), (a4, .inl (T 0, 10, .inl af4)), (a5, .inl (T 0, 10, .inl af5)), (a9, .inl (T 0, 10, .inl af9))] H locs := V _ [0, 1, 0, 0, 0, 0, 0, 0, 0, 0] rfl rfl rfl (by decide +kernel) rfl
                  show W p l e _ s m args below meth c H locs _ _ _ (F0 m 99 ls [.int (nI 0)])
                  refine lv_if_eq (tgt := 120) hx hb dX3_seekBestRound_99 (by decide) (fun _ => ?_) (fun c => absurd (show (nI 0) = 0 by decide +kernel) c)
                  refine lv_iinc (v := (nI (k10 + 1))) (lv' := [(4, .int (nI (k10 + 1))), (6, .int (nI k50)), (5, .int z_3), (3, .int x10_3), (0, .ref h0), (1, .ref a0), (2, .int (nI le))]) hx hb dX3_seekBestRound_120 hl (k := 2) rfl (nI_1 _) (by decide) rfl (fun ls hl => ?_)
                  refine lv_goto (tgt := 10) hx hb dX3_seekBestRound_123 (by decide) ?_
                  exact ih_10 (k10 + 1) x10_3 ga gd g_8 (by omega) (by omega) _ _ _ V (lv_sub hl [0, 3, 4, 5, 6] rfl)
              · skip
                have c_6 := b_nle (by omega) (by omega) c_6
                refine lv_aload_n hx hb dX3_seekBestRound_59 rfl (lv_at hl 4 rfl) ?_
                refine g_get hC V (ci := 3) uwX3 0 rfl rfl 4 (by decide) w_190 rfl rfl dX3_seekBestRound_60 ?_
                refine lv_iload hx hb dX3_seekBestRound_63 (lv_at hl 0 rfl) ?_
                refine lv_iload hx hb dX3_seekBestRound_65 (lv_at hl 2 rfl) ?_
                refine lv_aload_n hx hb dX3_seekBestRound_67 rfl (lv_at hl 5 rfl) ?_
                refine g_get hC V (ci := 5) uwX5 4 rfl rfl 0 (by decide) w_37 rfl rfl dX3_seekBestRound_68 ?_
                refine lv_iconst (v := (nI 1)) hx hb dX3_seekBestRound_71 (by decide +kernel) ?_
                refine lv_isub hx hb dX3_seekBestRound_72 ?_
                refine lv_iload hx hb dX3_seekBestRound_73 (lv_at hl 0 rfl) ?_
                refine lv_isub hx hb dX3_seekBestRound_75 ?_
                refine lv_aload_n hx hb dX3_seekBestRound_76 rfl (lv_at hl 4 rfl) ?_
                refine g_get hC V (ci := 3) uwX3 0 rfl rfl 3 (by decide) w_189 rfl rfl dX3_seekBestRound_77 ?_
                refine lv_imul hx hb dX3_seekBestRound_80 ?_
                refine lv_ishr hx hb dX3_seekBestRound_81 ?_
                refine lv_topi (fun x_10 ex_10 => ?_)
                refine lv_aload_n hx hb dX3_seekBestRound_82 rfl (lv_at hl 4 rfl) ?_
                refine g_callVU (nA := 0) hC V hl.1 (h_everyTime l D T h0 h1 qx qy le h2 h3) w_606 w_608 w_s17 w_6 w_609 (by decide +kernel) rfl ⟨(Nat.le_of_ble_eq_true rfl), (Nat.le_of_ble_eq_true rfl)⟩ 0 (ci := 3) rfl rfl [0] rfl rfl (Nat.le_of_ble_eq_true rfl) dX3_seekBestRound_83 ⟨(Nat.le_of_ble_eq_true rfl), (Nat.le_of_ble_eq_true rfl)⟩ rfl (fun r w1 H locs hQ V => ?_)
                obtain ⟨z_11, rfl, rfl⟩ := hQ
                have V : gW D T A s [(h0, .inr (3, [.ref h1, .int qx, .int qy, .int (nI le), .ref h2, .ref h3])), (h1, .inl (T 0, 10, .inl ga)), (h2, .inl (T 0, 10, .inl gd)), (h3, .inl (T 0, 12, .inl gc)), (a0, .inr (5, [.int (nI an), .int am, .int al, .int ao, .int au, .ref a1, .ref a2, .ref a3, .ref a4, .ref a5, .ref a6, .ref a7, .ref a8, .ref a9, .ref a10])), (a1, .inl (T 0, 10, .inl af1)), (a2, .inl (T 0, 10, .inl af2)), (a3, .inl (T 0, 10, .inl af3)), (a4, .inl (T 0, 10, .inl af4)), (a5, .inl (T 0, 10, .inl af5)), (a9, .inl (T 0, 10, .inl af9))] H locs := V _ [0] rfl rfl rfl (by decide +kernel) rfl
                show W p l e _ s m args below meth c H locs _ _ _ (F0 m 86 ls [.int z_11, .int x_10, .int (nI k50), .ref h2])
                refine lv_iand hx hb dX3_seekBestRound_86 ?_
                refine g_iast hC V 2 rfl (vp_in_nI (by omega) (by omega)) (f' := (upd gd k50 (x_10 &&& z_11))) (by rw [nI_clamp (by omega)]) (ws' := [(h0, .inr (3, [.ref h1, .int qx, .int qy, .int (nI le), .ref h2, .ref h3])), (h1, .inl (T 0, 10, .inl ga)), (h2, .inl (T 0, 10, .inl (upd gd k50 (x_10 &&& z_11)))), (h3, .inl (T 0, 12, .inl gc)), (a0, .inr (5, [.int (nI an), .int am, .int al, .int ao, .int au, .ref a1, .ref a2, .ref a3, .ref a4, .ref a5, .ref a6, .ref a7, .ref a8, .ref a9, .ref a10])), (a1, .inl (T 0, 10, .inl af1)), (a2, .inl (T 0, 10, .inl af2)), (a3, .inl (T 0, 10, .inl af3)), (a4, .inl (T 0, 10, .inl af4)), (a5, .inl (T 0, 10, .inl af5)), (a9, .inl (T 0, 10, .inl af9))]) rfl dX3_seekBestRound_87 (fun H locs V => ?_)
                refine lv_iinc (v := (nI (k50 + 1))) (lv' := [(6, .int (nI (k50 + 1))), (5, .int z_3), (4, .int (nI k10)), (3, .int x10_3), (0, .ref h0), (1, .ref a0), (2, .int (nI le))]) hx hb dX3_seekBestRound_88 hl (k := 0) rfl (nI_1 _) (by decide) rfl (fun ls hl => ?_)
                refine lv_goto (tgt := 50) hx hb dX3_seekBestRound_91 (by decide) ?_
                exact ih_50 (k50 + 1) (upd gd k50 (x_10 &&& z_11)) (by omega) (by omega) _ _ _ V (lv_sub hl [0, 1, 2, 3, 4, 5, 6] rfl)
          exact L_5 _ 0 gb (by omega) (Nat.lt_succ_self _) _ _ _ V (lv_sub hl [0, 1, 2, 3, 4, 5, 6] rfl)
        · skip
          refine lv_iload hx hb dX3_seekBestRound_38 (lv_at hl 0 rfl) ?_
          refine lv_iload_n hx hb dX3_seekBestRound_40 rfl (lv_at hl 2 rfl) ?_
          refine lv_icmp_lt (tgt := 47) hx hb dX3_seekBestRound_41 (by decide) (fun c_12 => ?_) (fun c_12 => ?_)
          · skip
            refine lv_iconst (v := (nI 0)) hx hb dX3_seekBestRound_47 (by decide +kernel) ?_
            refine lv_istore (lv' := [(6, .int (nI 0)), (5, .int z_3), (4, .int (nI k10)), (3, .int x10_3), (0, .ref h0), (1, .ref a0), (2, .int (nI le))]) hx hb dX3_seekBestRound_48 hl (by decide) rfl (fun ls hl => ?_)
            have L_13 : ∀ (fu : Nat) (k50 : Nat) (gd : Nat → Int32), k50 ≤ an → an - k50 < fu → ∀ (H : Heap) (locs : List Loc) (ls : Array Slot), gW D T A s [(h0, .inr (3, [.ref h1, .int qx, .int qy, .int (nI le), .ref h2, .ref h3])), (h1, .inl (T 0, 10, .inl ga)), (h2, .inl (T 0, 10, .inl gd)), (h3, .inl (T 0, 12, .inl gc)), (a0, .inr (5, [.int (nI an), .int am, .int al, .int ao, .int au, .ref a1, .ref a2, .ref a3, .ref a4, .ref a5, .ref a6, .ref a7, .ref a8, .ref a9, .ref a10])), (a1, .inl (T 0, 10, .inl af1)), (a2, .inl (T 0, 10, .inl af2)), (a3, .inl (T 0, 10, .inl af3)), (a4, .inl (T 0, 10, .inl af4)), (a5, .inl (T 0, 10, .inl af5)), (a9, .inl (T 0, 10, .inl af9))] H locs → lv_has ls 7 [(6, .int (nI k50)), (5, .int z_3), (4, .int (nI k10)), (3, .int x10_3), (0, .ref h0), (1, .ref a0), (2, .int (nI le))] → W p l e (rmD 4 0 0) s m args below meth c H locs 0 0 (MQ below (gQ D A (q_h_seekBest T h0 a0 le h1 qx qy ql h2 h3 qb qp qc an am al ao au a1 a2 a3 a4 a5 a6 a7 a8 a9 a10 af1 af2 af3 af4 af5 af9)) args s 0 0 A) (F0 m 50 ls []) := by
              intro fu_50
              induction fu_50 with
              | zero => intro k50 gd hk50 hmu; exact absurd hmu (Nat.not_lt_zero _)
              | succ fu_50 ih_50 =>
                intro k50 gd hk50 hmu_50 H locs ls V hl
                refine lv_iload hx hb dX3_seekBestRound_50 (lv_at hl 0 rfl) ?_
                refine lv_aload_n hx hb dX3_seekBestRound_52 rfl (lv_at hl 5 rfl) ?_
                refine g_get hC V (ci := 5) uwX5 4 rfl rfl 0 (by decide) w_37 rfl rfl dX3_seekBestRound_53 ?_
                refine lv_icmp_ge (tgt := 94) hx hb dX3_seekBestRound_56 (by decide) (fun c_14 => ?_) (fun c_14 => ?_)
                · skip
                  have c_14 := b_le (by omega) (by omega) c_14
                  refine lv_aload_n hx hb dX3_seekBestRound_94 rfl (lv_at hl 4 rfl) ?_
                  refine lv_aload_n hx hb dX3_seekBestRound_95 rfl (lv_at hl 5 rfl) ?_
                  refine g_callVU (nA := 1) hC V hl.1 (h_holdAll l D T h0 a0 h1 qx qy le h2 h3 gd gc an am al ao au a1 a2 a3 a4 a5 a6 a7 a8 a9 a10 af1 af2 af3 af4 af5 af9 (by first | assumption | omega) (by first | assumption | omega)) w_666 w_668 w_s21 w_6 w_669 (by decide +kernel) rfl ⟨(Nat.le_of_ble_eq_true rfl), (Nat.le_of_ble_eq_true rfl)⟩ 0 (ci := 3) rfl rfl [0, 2, 3, 4, 5, 6, 7, 8, 9, 10] rfl rfl (Nat.le_of_ble_eq_true rfl) dX3_seekBestRound_96 ⟨(Nat.le_of_ble_eq_true rfl), (Nat.le_of_ble_eq_true rfl)⟩ rfl (fun r w1 H locs hQ V => ?_)
                  rcases hQ with ⟨g_15, rfl, rfl⟩ | ⟨g_16, rfl, rfl⟩
                  · have V : gW D T A s [(h0, .inr (3, [.ref h1, .int qx, .int qy, .int (nI le), .ref h2, .ref h3])), (h1, .inl (T 0, 10, .inl ga)), (h2, .inl (T 0, 10, .inl gd)), (h3, .inl (T 0, 12, .inl g_15)), (a0, .inr (5, [.int (nI an), .int am, .int al, .int ao, .int au, .ref a1, .ref a2, .ref a3, .ref a4, .ref a5, .ref a6, .ref a7, .ref a8, .ref a9, .ref a10])), (a1, .inl (T 0, 10, .inl af1)), (a2, .inl (T 0, 10, .inl af2)), (a3, .inl (T 0, 10, .inl af3)), (a4, .inl (T 0, 10, .inl af4)), (a5, .inl (T 0, 10, .inl af5)), (a9, .inl (T 0, 10, .inl af9))] H locs := V _ [0, 1, 0, 0, 0, 0, 0, 0, 0, 0] rfl rfl rfl (by decide +kernel) rfl
                    show W p l e _ s m args below meth c H locs _ _ _ (F0 m 99 ls [.int (nI 1)])
                    refine lv_if_eq (tgt := 120) hx hb dX3_seekBestRound_99 (by decide) (fun c => absurd (show (nI 1) = 0 from c) (by decide +kernel)) (fun _ => ?_)
                    refine lv_iload hx hb dX3_seekBestRound_102 (lv_at hl 1 rfl) ?_
                    refine lv_istore_n (lv' := [(3, .int z_3), (6, .int (nI k50)), (5, .int z_3), (4, .int (nI k10)), (0, .ref h0), (1, .ref a0), (2, .int (nI le))]) hx hb dX3_seekBestRound_104 rfl hl (by decide) rfl (fun ls hl => ?_)
                    refine lv_aload_n hx hb dX3_seekBestRound_105 rfl (lv_at hl 4 rfl) ?_
                    refine g_get hC V (ci := 3) uwX3 0 rfl rfl 4 (by decide) w_190 rfl rfl dX3_seekBestRound_106 ?_
                    refine lv_iconst (v := (nI 0)) hx hb dX3_seekBestRound_109 (by decide +kernel) ?_
                    refine lv_aload_n hx hb dX3_seekBestRound_110 rfl (lv_at hl 4 rfl) ?_
                    refine g_get hC V (ci := 3) uwX3 0 rfl rfl 0 (by decide) w_183 rfl rfl dX3_seekBestRound_111 ?_
                    refine lv_iconst (v := (nI 0)) hx hb dX3_seekBestRound_114 (by decide +kernel) ?_
                    refine lv_bipush (v := (nI 10)) hx hb dX3_seekBestRound_115 (by decide +kernel) ?_
                    refine g_copyi hC V hl.1 w_670 w_672 w_671 w_17 2 1 rfl rfl (by decide +kernel) (by decide +kernel) (Nat.le_of_ble_eq_true rfl) (Nat.le_of_ble_eq_true rfl) (Nat.le_of_ble_eq_true rfl) dX3_seekBestRound_117 (fun g_17 H locs V => ?_)
                    have V : gW D T A s [(h0, .inr (3, [.ref h1, .int qx, .int qy, .int (nI le), .ref h2, .ref h3])), (h1, .inl (T 0, 10, .inl g_17)), (h2, .inl (T 0, 10, .inl gd)), (h3, .inl (T 0, 12, .inl g_15)), (a0, .inr (5, [.int (nI an), .int am, .int al, .int ao, .int au, .ref a1, .ref a2, .ref a3, .ref a4, .ref a5, .ref a6, .ref a7, .ref a8, .ref a9, .ref a10])), (a1, .inl (T 0, 10, .inl af1)), (a2, .inl (T 0, 10, .inl af2)), (a3, .inl (T 0, 10, .inl af3)), (a4, .inl (T 0, 10, .inl af4)), (a5, .inl (T 0, 10, .inl af5)), (a9, .inl (T 0, 10, .inl af9))] H locs := V
                    refine lv_iinc (v := (nI (k10 + 1))) (lv' := [(4, .int (nI (k10 + 1))), (3, .int z_3), (6, .int (nI k50)), (5, .int z_3), (0, .ref h0), (1, .ref a0), (2, .int (nI le))]) hx hb dX3_seekBestRound_120 hl (k := 3) rfl (nI_1 _) (by decide) rfl (fun ls hl => ?_)
                    refine lv_goto (tgt := 10) hx hb dX3_seekBestRound_123 (by decide) ?_
                    exact ih_10 (k10 + 1) z_3 g_17 gd g_15 (by omega) (by omega) _ _ _ V (lv_sub hl [0, 1, 4, 5, 6] rfl)
                  · have V : gW D T A s [(h0, .inr (3, [.ref h1, .int qx, .int qy, .int (nI le), .ref h2, .ref h3])), (h1, .inl (T 0, 10, .inl ga)), (h2, .inl (T 0, 10, .inl gd)), (h3, .inl (T 0, 12, .inl g_16)), (a0, .inr (5, [.int (nI an), .int am, .int al, .int ao, .int au, .ref a1, .ref a2, .ref a3, .ref a4, .ref a5, .ref a6, .ref a7, .ref a8, .ref a9, .ref a10])), (a1, .inl (T 0, 10, .inl af1)), (a2, .inl (T 0, 10, .inl af2)), (a3, .inl (T 0, 10, .inl af3)), (a4, .inl (T 0, 10, .inl af4)), (a5, .inl (T 0, 10, .inl af5)), (a9, .inl (T 0, 10, .inl af9))] H locs := V _ [0, 1, 0, 0, 0, 0, 0, 0, 0, 0] rfl rfl rfl (by decide +kernel) rfl
                    show W p l e _ s m args below meth c H locs _ _ _ (F0 m 99 ls [.int (nI 0)])
                    refine lv_if_eq (tgt := 120) hx hb dX3_seekBestRound_99 (by decide) (fun _ => ?_) (fun c => absurd (show (nI 0) = 0 by decide +kernel) c)
                    refine lv_iinc (v := (nI (k10 + 1))) (lv' := [(4, .int (nI (k10 + 1))), (6, .int (nI k50)), (5, .int z_3), (3, .int x10_3), (0, .ref h0), (1, .ref a0), (2, .int (nI le))]) hx hb dX3_seekBestRound_120 hl (k := 2) rfl (nI_1 _) (by decide) rfl (fun ls hl => ?_)
                    refine lv_goto (tgt := 10) hx hb dX3_seekBestRound_123 (by decide) ?_
                    exact ih_10 (k10 + 1) x10_3 ga gd g_16 (by omega) (by omega) _ _ _ V (lv_sub hl [0, 3, 4, 5, 6] rfl)
                · skip
                  have c_14 := b_nle (by omega) (by omega) c_14
                  refine lv_aload_n hx hb dX3_seekBestRound_59 rfl (lv_at hl 4 rfl) ?_
                  refine g_get hC V (ci := 3) uwX3 0 rfl rfl 4 (by decide) w_190 rfl rfl dX3_seekBestRound_60 ?_
                  refine lv_iload hx hb dX3_seekBestRound_63 (lv_at hl 0 rfl) ?_
                  refine lv_iload hx hb dX3_seekBestRound_65 (lv_at hl 2 rfl) ?_
                  refine lv_aload_n hx hb dX3_seekBestRound_67 rfl (lv_at hl 5 rfl) ?_
                  refine g_get hC V (ci := 5) uwX5 4 rfl rfl 0 (by decide) w_37 rfl rfl dX3_seekBestRound_68 ?_
                  refine lv_iconst (v := (nI 1)) hx hb dX3_seekBestRound_71 (by decide +kernel) ?_
                  refine lv_isub hx hb dX3_seekBestRound_72 ?_
                  refine lv_iload hx hb dX3_seekBestRound_73 (lv_at hl 0 rfl) ?_
                  refine lv_isub hx hb dX3_seekBestRound_75 ?_
                  refine lv_aload_n hx hb dX3_seekBestRound_76 rfl (lv_at hl 4 rfl) ?_
                  refine g_get hC V (ci := 3) uwX3 0 rfl rfl 3 (by decide) w_189 rfl rfl dX3_seekBestRound_77 ?_
                  refine lv_imul hx hb dX3_seekBestRound_80 ?_
                  refine lv_ishr hx hb dX3_seekBestRound_81 ?_
                  refine lv_topi (fun x_18 ex_18 => ?_)
                  refine lv_aload_n hx hb dX3_seekBestRound_82 rfl (lv_at hl 4 rfl) ?_
                  refine g_callVU (nA := 0) hC V hl.1 (h_everyTime l D T h0 h1 qx qy le h2 h3) w_606 w_608 w_s17 w_6 w_609 (by decide +kernel) rfl ⟨(Nat.le_of_ble_eq_true rfl), (Nat.le_of_ble_eq_true rfl)⟩ 0 (ci := 3) rfl rfl [0] rfl rfl (Nat.le_of_ble_eq_true rfl) dX3_seekBestRound_83 ⟨(Nat.le_of_ble_eq_true rfl), (Nat.le_of_ble_eq_true rfl)⟩ rfl (fun r w1 H locs hQ V => ?_)
                  obtain ⟨z_19, rfl, rfl⟩ := hQ
                  have V : gW D T A s [(h0, .inr (3, [.ref h1, .int qx, .int qy, .int (nI le), .ref h2, .ref h3])), (h1, .inl (T 0, 10, .inl ga)), (h2, .inl (T 0, 10, .inl gd)), (h3, .inl (T 0, 12, .inl gc)), (a0, .inr (5, [.int (nI an), .int am, .int al, .int ao, .int au, .ref a1, .ref a2, .ref a3, .ref a4, .ref a5, .ref a6, .ref a7, .ref a8, .ref a9, .ref a10])), (a1, .inl (T 0, 10, .inl af1)), (a2, .inl (T 0, 10, .inl af2)), (a3, .inl (T 0, 10, .inl af3)), (a4, .inl (T 0, 10, .inl af4)), (a5, .inl (T 0, 10, .inl af5)), (a9, .inl (T 0, 10, .inl af9))] H locs := V _ [0] rfl rfl rfl (by decide +kernel) rfl
                  show W p l e _ s m args below meth c H locs _ _ _ (F0 m 86 ls [.int z_19, .int x_18, .int (nI k50), .ref h2])
                  refine lv_iand hx hb dX3_seekBestRound_86 ?_
                  refine g_iast hC V 2 rfl (vp_in_nI (by omega) (by omega)) (f' := (upd gd k50 (x_18 &&& z_19))) (by rw [nI_clamp (by omega)]) (ws' := [(h0, .inr (3, [.ref h1, .int qx, .int qy, .int (nI le), .ref h2, .ref h3])), (h1, .inl (T 0, 10, .inl ga)), (h2, .inl (T 0, 10, .inl (upd gd k50 (x_18 &&& z_19)))), (h3, .inl (T 0, 12, .inl gc)), (a0, .inr (5, [.int (nI an), .int am, .int al, .int ao, .int au, .ref a1, .ref a2, .ref a3, .ref a4, .ref a5, .ref a6, .ref a7, .ref a8, .ref a9, .ref a10])), (a1, .inl (T 0, 10, .inl af1)), (a2, .inl (T 0, 10, .inl af2)), (a3, .inl (T 0, 10, .inl af3)), (a4, .inl (T 0, 10, .inl af4)), (a5, .inl (T 0, 10, .inl af5)), (a9, .inl (T 0, 10, .inl af9))]) rfl dX3_seekBestRound_87 (fun H locs V => ?_)
                  refine lv_iinc (v := (nI (k50 + 1))) (lv' := [(6, .int (nI (k50 + 1))), (5, .int z_3), (4, .int (nI k10)), (3, .int x10_3), (0, .ref h0), (1, .ref a0), (2, .int (nI le))]) hx hb dX3_seekBestRound_88 hl (k := 0) rfl (nI_1 _) (by decide) rfl (fun ls hl => ?_)
                  refine lv_goto (tgt := 50) hx hb dX3_seekBestRound_91 (by decide) ?_
                  exact ih_50 (k50 + 1) (upd gd k50 (x_18 &&& z_19)) (by omega) (by omega) _ _ _ V (lv_sub hl [0, 1, 2, 3, 4, 5, 6] rfl)
            exact L_13 _ 0 gb (by omega) (Nat.lt_succ_self _) _ _ _ V (lv_sub hl [0, 1, 2, 3, 4, 5, 6] rfl)
          · skip
            refine lv_goto (tgt := 120) hx hb dX3_seekBestRound_44 (by decide) ?_
            refine lv_iinc (v := (nI (k10 + 1))) (lv' := [(4, .int (nI (k10 + 1))), (5, .int z_3), (3, .int x10_3), (0, .ref h0), (1, .ref a0), (2, .int (nI le))]) hx hb dX3_seekBestRound_120 hl (k := 1) rfl (nI_1 _) (by decide) rfl (fun ls hl => ?_)
            refine lv_goto (tgt := 10) hx hb dX3_seekBestRound_123 (by decide) ?_
            exact ih_10 (k10 + 1) x10_3 ga gb gc (by omega) (by omega) _ _ _ V (lv_sub hl [0, 2, 3, 4, 5] rfl)
  exact L_1 _ 0 (-1) qb qp qc (by omega) (Nat.lt_succ_self _) _ _ _ V (lv_sub hl [0, 1, 2, 3, 4] rfl)

def q_y_closes (T : Nat → ClassId) (y0 : Nat) (a0 : Nat) (sm : Nat) (fi : Nat) (ys : Int32) (y1 : Nat) (y2 : Nat) (yt : Nat → Int32) (an : Nat) (am : Int32) (al : Int32) (ao : Int32) (au : Int32) (a1 : Nat) (a2 : Nat) (a3 : Nat) (a4 : Nat) (a5 : Nat) (a6 : Nat) (a7 : Nat) (a8 : Nat) (a9 : Nat) (a10 : Nat) : Option Value → va_W → Prop := fun rr ww => (rr = some (.int (nI 1)) ∧ ww = [(y0, .inr (0, [.int ys, .ref y1, .ref y2])), (y2, .inl (T 0, 7, .inl yt)), (a0, .inr (5, [.int (nI an), .int am, .int al, .int ao, .int au, .ref a1, .ref a2, .ref a3, .ref a4, .ref a5, .ref a6, .ref a7, .ref a8, .ref a9, .ref a10]))]) ∨ (rr = some (.int (nI 0)) ∧ ww = [(y0, .inr (0, [.int ys, .ref y1, .ref y2])), (y2, .inl (T 0, 7, .inl yt)), (a0, .inr (5, [.int (nI an), .int am, .int al, .int ao, .int au, .ref a1, .ref a2, .ref a3, .ref a4, .ref a5, .ref a6, .ref a7, .ref a8, .ref a9, .ref a10]))])
set_option maxHeartbeats 4000000 in
set_option maxRecDepth 100000 in
theorem y_closes (l : Launch) (D : va_G) (T : Nat → ClassId) (y0 : Nat) (a0 : Nat) (sm : Nat) (fi : Nat) (ys : Int32) (y1 : Nat) (y2 : Nat) (yt : Nat → Int32) (an : Nat) (am : Int32) (al : Int32) (ao : Int32) (au : Int32) (a1 : Nat) (a2 : Nat) (a3 : Nat) (a4 : Nat) (a5 : Nat) (a6 : Nat) (a7 : Nat) (a8 : Nat) (a9 : Nat) (a10 : Nat) (h_n : an ≤ 7) (h_yt : ∀ i, i < 7 → (yt i = -1 ∨ bd (yt i) 7)) (h_fi : fi < 7) (h_sm : sm < 7) : Ct l yX0_closesTooSoon cX0_closesTooSoon 6 (some .boolean) 0 0 0 D T [.ref y0, .ref a0, .int (nI sm), .int (nI fi)] [(y0, .inr (0, [.int ys, .ref y1, .ref y2])), (y2, .inl (T 0, 7, .inl yt)), (a0, .inr (5, [.int (nI an), .int am, .int al, .int ao, .int au, .ref a1, .ref a2, .ref a3, .ref a4, .ref a5, .ref a6, .ref a7, .ref a8, .ref a9, .ref a10]))] (q_y_closes T y0 a0 sm fi ys y1 y2 yt an am al ao au a1 a2 a3 a4 a5 a6 a7 a8 a9 a10) := by
  refine Ct.of (cc := cX0_closesTooSoon) (maxL := 6) (ret := (some .boolean)) (by decide) (Nat.le_of_ble_eq_true rfl) ?_
  intro p e s m args below meth c A ls hC hnm V hl
  obtain ⟨hx, hb, hr, hml, hown, hts, hlocks⟩ := id hC
  generalize hH : s.heap = H at V ⊢
  clear hH
  have hl : lv_has ls 6 [(0, .ref y0), (1, .ref a0), (2, .int (nI sm)), (3, .int (nI fi))] := hl
  generalize hlo : ([] : List Loc) = locs at V ⊢
  clear hlo
  refine lv_iload_n hx hb dX0_closesTooSoon_0 rfl (lv_at hl 3 rfl) ?_
  refine lv_istore (lv' := [(4, .int (nI fi)), (0, .ref y0), (1, .ref a0), (2, .int (nI sm)), (3, .int (nI fi))]) hx hb dX0_closesTooSoon_1 hl (by decide) rfl (fun ls hl => ?_)
  refine lv_iconst (v := (nI 0)) hx hb dX0_closesTooSoon_3 (by decide +kernel) ?_
  refine lv_istore (lv' := [(5, .int (nI 0)), (4, .int (nI fi)), (0, .ref y0), (1, .ref a0), (2, .int (nI sm)), (3, .int (nI fi))]) hx hb dX0_closesTooSoon_4 hl (by decide) rfl (fun ls hl => ?_)
  have L_1 : ∀ (fu : Nat) (k6 : Nat) (at_ : Int32), k6 ≤ an → at_ = -1 ∨ bd at_ 7 → an - k6 < fu → ∀ (H : Heap) (locs : List Loc) (ls : Array Slot), gW D T A s [(y0, .inr (0, [.int ys, .ref y1, .ref y2])), (y2, .inl (T 0, 7, .inl yt)), (a0, .inr (5, [.int (nI an), .int am, .int al, .int ao, .int au, .ref a1, .ref a2, .ref a3, .ref a4, .ref a5, .ref a6, .ref a7, .ref a8, .ref a9, .ref a10]))] H locs → lv_has ls 6 [(5, .int (nI k6)), (4, .int at_), (0, .ref y0), (1, .ref a0), (2, .int (nI sm)), (3, .int (nI fi))] → W p l e (rmD 0 0 0) s m args below meth c H locs 0 0 (MQ below (gQ D A (q_y_closes T y0 a0 sm fi ys y1 y2 yt an am al ao au a1 a2 a3 a4 a5 a6 a7 a8 a9 a10)) args s 0 0 A) (F0 m 6 ls []) := by
    intro fu_6
    induction fu_6 with
    | zero => intro k6 at_ hk6 hat hmu; exact absurd hmu (Nat.not_lt_zero _)
    | succ fu_6 ih_6 =>
      intro k6 at_ hk6 hat hmu_6 H locs ls V hl
      refine lv_iload hx hb dX0_closesTooSoon_6 (lv_at hl 0 rfl) ?_
      refine lv_aload_n hx hb dX0_closesTooSoon_8 rfl (lv_at hl 3 rfl) ?_
      refine g_get hC V (ci := 5) uwX5 2 rfl rfl 0 (by decide) w_35 rfl rfl dX0_closesTooSoon_9 ?_
      refine lv_icmp_ge (tgt := 58) hx hb dX0_closesTooSoon_12 (by decide) (fun c_2 => ?_) (fun c_2 => ?_)
      · skip
        have c_2 := b_le (by omega) (by omega) c_2
        refine lv_iconst (v := (nI 0)) hx hb dX0_closesTooSoon_58 (by decide +kernel) ?_
        exact g_zret (Qr := (q_y_closes T y0 a0 sm fi ys y1 y2 yt an am al ao au a1 a2 a3 a4 a5 a6 a7 a8 a9 a10)) hC V ⟨(Nat.le_of_ble_eq_true rfl), (Nat.le_of_ble_eq_true rfl)⟩ (by first | decide +kernel | exact rfl) (.inr ⟨rfl, rfl⟩) dX0_closesTooSoon_59
      · skip
        have c_2 := b_nle (by omega) (by omega) c_2
        refine lv_iload hx hb dX0_closesTooSoon_15 (lv_at hl 1 rfl) ?_
        refine lv_iconst (v := (-1)) hx hb dX0_closesTooSoon_17 (by decide +kernel) ?_
        refine lv_icmp_eq (tgt := 58) hx hb dX0_closesTooSoon_18 (by decide) (fun c_3 => ?_) (fun c_3 => ?_)
        · skip
          refine lv_iconst (v := (nI 0)) hx hb dX0_closesTooSoon_58 (by decide +kernel) ?_
          exact g_zret (Qr := (q_y_closes T y0 a0 sm fi ys y1 y2 yt an am al ao au a1 a2 a3 a4 a5 a6 a7 a8 a9 a10)) hC V ⟨(Nat.le_of_ble_eq_true rfl), (Nat.le_of_ble_eq_true rfl)⟩ (by first | decide +kernel | exact rfl) (.inr ⟨rfl, rfl⟩) dX0_closesTooSoon_59
        · skip
          obtain ⟨ja, hja, rfl⟩ := hat.resolve_left c_3
          refine lv_iload hx hb dX0_closesTooSoon_21 (lv_at hl 1 rfl) ?_
          refine lv_iload_n hx hb dX0_closesTooSoon_23 rfl (lv_at hl 4 rfl) ?_
          refine lv_icmp_ne (tgt := 43) hx hb dX0_closesTooSoon_24 (by decide) (fun c_4 => ?_) (fun c_4 => ?_)
          · skip
            have c_4 := b_ne (by omega) (by omega) c_4
            refine lv_aload_n hx hb dX0_closesTooSoon_43 rfl (lv_at hl 2 rfl) ?_
            refine g_get hC V (ci := 0) uwX0 0 rfl rfl 2 (by decide) w_215 rfl rfl dX0_closesTooSoon_44 ?_
            refine lv_iload hx hb dX0_closesTooSoon_47 (lv_at hl 1 rfl) ?_
            refine g_iald hC V 1 rfl (vp_in_nI (by omega) (by omega)) (v := (yt ja)) (congrArg _ (nI_clamp (by omega))) dX0_closesTooSoon_49 ?_
            refine lv_istore (lv' := [(4, .int (yt ja)), (5, .int (nI k6)), (0, .ref y0), (1, .ref a0), (2, .int (nI sm)), (3, .int (nI fi))]) hx hb dX0_closesTooSoon_50 hl (by decide) rfl (fun ls hl => ?_)
            refine lv_iinc (v := (nI (k6 + 1))) (lv' := [(5, .int (nI (k6 + 1))), (4, .int (yt ja)), (0, .ref y0), (1, .ref a0), (2, .int (nI sm)), (3, .int (nI fi))]) hx hb dX0_closesTooSoon_52 hl (k := 1) rfl (nI_1 _) (by decide) rfl (fun ls hl => ?_)
            refine lv_goto (tgt := 6) hx hb dX0_closesTooSoon_55 (by decide) ?_
            exact ih_6 (k6 + 1) (yt ja) (by omega) (h_yt _ (by omega)) (by omega) _ _ _ V (lv_sub hl [0, 1, 2, 3, 4, 5] rfl)
          · skip
            have c_4 := b_eq (by omega) (by omega) c_4
            refine lv_iload_n hx hb dX0_closesTooSoon_27 rfl (lv_at hl 4 rfl) ?_
            refine lv_aload_n hx hb dX0_closesTooSoon_28 rfl (lv_at hl 3 rfl) ?_
            refine g_get hC V (ci := 5) uwX5 2 rfl rfl 0 (by decide) w_35 rfl rfl dX0_closesTooSoon_29 ?_
            refine lv_iconst (v := (nI 1)) hx hb dX0_closesTooSoon_32 (by decide +kernel) ?_
            refine lv_isub hx hb dX0_closesTooSoon_33 ?_
            refine lv_icmp_ge (tgt := 41) hx hb dX0_closesTooSoon_34 (by decide) (fun c_5 => ?_) (fun c_5 => ?_)
            · skip
              refine lv_iconst (v := (nI 0)) hx hb dX0_closesTooSoon_41 (by decide +kernel) ?_
              exact g_zret (Qr := (q_y_closes T y0 a0 sm fi ys y1 y2 yt an am al ao au a1 a2 a3 a4 a5 a6 a7 a8 a9 a10)) hC V ⟨(Nat.le_of_ble_eq_true rfl), (Nat.le_of_ble_eq_true rfl)⟩ (by first | decide +kernel | exact rfl) (.inr ⟨rfl, rfl⟩) dX0_closesTooSoon_42
            · skip
              refine lv_iconst (v := (nI 1)) hx hb dX0_closesTooSoon_37 (by decide +kernel) ?_
              refine lv_goto (tgt := 42) hx hb dX0_closesTooSoon_38 (by decide) ?_
              exact g_zret (Qr := (q_y_closes T y0 a0 sm fi ys y1 y2 yt an am al ao au a1 a2 a3 a4 a5 a6 a7 a8 a9 a10)) hC V ⟨(Nat.le_of_ble_eq_true rfl), (Nat.le_of_ble_eq_true rfl)⟩ (by first | decide +kernel | exact rfl) (.inl ⟨rfl, rfl⟩) dX0_closesTooSoon_42
  exact L_1 _ 0 (nI fi) (by omega) (Or.inr (bd_nI (by omega))) (Nat.lt_succ_self _) _ _ _ V (lv_sub hl [0, 1, 2, 3, 4, 5] rfl)

def q_fill7 (T : Nat → ClassId) (a : Nat) (x : Int32) (f0 : Nat → Int32) : Option Value → va_W → Prop := fun rr ww => (∃ (g : Nat → Int32), rr = none ∧ ww = [(a, .inl (T 0, 7, .inl g))] ∧ (∀ i, i < 7 → g i = x))
set_option maxHeartbeats 4000000 in
set_option maxRecDepth 100000 in
theorem c_fill7 (l : Launch) (D : va_G) (T : Nat → ClassId) (a : Nat) (x : Int32) (f0 : Nat → Int32) : Ct l yJ7_fill_53178 cJ7_fill_53178 4 none 0 0 0 D T [.ref a, .int x] [(a, .inl (T 0, 7, .inl f0))] (q_fill7 T a x f0) := by
  refine Ct.of (cc := cJ7_fill_53178) (maxL := 4) (ret := none) (by decide) (Nat.le_of_ble_eq_true rfl) ?_
  intro p e s m args below meth c A ls hC hnm V hl
  obtain ⟨hx, hb, hr, hml, hown, hts, hlocks⟩ := id hC
  generalize hH : s.heap = H at V ⊢
  clear hH
  have hl : lv_has ls 4 [(0, .ref a), (1, .int x)] := hl
  generalize hlo : ([] : List Loc) = locs at V ⊢
  clear hlo
  refine lv_iconst (v := (nI 0)) hx hb dJ7_fill_53178_0 (by decide +kernel) ?_
  refine lv_istore_n (lv' := [(2, .int (nI 0)), (0, .ref a), (1, .int x)]) hx hb dJ7_fill_53178_1 rfl hl (by decide) rfl (fun ls hl => ?_)
  refine lv_aload_n hx hb dJ7_fill_53178_2 rfl (lv_at hl 1 rfl) ?_
  refine g_alen hC V 0 0 rfl rfl dJ7_fill_53178_3 ?_
  refine lv_istore_n (lv' := [(3, .int (nI 7)), (2, .int (nI 0)), (0, .ref a), (1, .int x)]) hx hb dJ7_fill_53178_4 rfl hl (by decide) rfl (fun ls hl => ?_)
  have L_1 : ∀ (fu : Nat) (k : Nat) (f : Nat → Int32), k ≤ 7 → (∀ i, i < k → f i = x) → 7 - k < fu → ∀ (H : Heap) (locs : List Loc) (ls : Array Slot), gW D T A s [(a, .inl (T 0, 7, .inl f))] H locs → lv_has ls 4 [(3, .int (nI 7)), (2, .int (nI k)), (0, .ref a), (1, .int x)] → W p l e (rmD 0 0 0) s m args below meth c H locs 0 0 (MQ below (gQ D A (q_fill7 T a x f0)) args s 0 0 A) (F0 m 5 ls []) := by
    intro fu_5
    induction fu_5 with
    | zero => intro k f hk hf hmu; exact absurd hmu (Nat.not_lt_zero _)
    | succ fu_5 ih_5 =>
      intro k f hk hf hmu_5 H locs ls V hl
      refine lv_iload_n hx hb dJ7_fill_53178_5 rfl (lv_at hl 1 rfl) ?_
      refine lv_iload_n hx hb dJ7_fill_53178_6 rfl (lv_at hl 0 rfl) ?_
      refine lv_icmp_ge (tgt := 20) hx hb dJ7_fill_53178_7 (by decide) (fun c_2 => ?_) (fun c_2 => ?_)
      · skip
        have c_2 := b_le (by omega) (by omega) c_2
        exact g_vret (Qr := (q_fill7 T a x f0)) hC V ⟨(Nat.le_of_ble_eq_true rfl), (Nat.le_of_ble_eq_true rfl)⟩ ⟨f, rfl, rfl, (fun i h => hf i (by omega))⟩ dJ7_fill_53178_20
      · skip
        have c_2 := b_nle (by omega) (by omega) c_2
        refine lv_aload_n hx hb dJ7_fill_53178_10 rfl (lv_at hl 2 rfl) ?_
        refine lv_iload_n hx hb dJ7_fill_53178_11 rfl (lv_at hl 1 rfl) ?_
        refine lv_iload_n hx hb dJ7_fill_53178_12 rfl (lv_at hl 3 rfl) ?_
        refine g_iast hC V 0 rfl (vp_in_nI (by omega) (by omega)) (f' := (upd f k x)) (by rw [nI_clamp (by omega)]) (ws' := [(a, .inl (T 0, 7, .inl (upd f k x)))]) rfl dJ7_fill_53178_13 (fun H locs V => ?_)
        refine lv_iinc (v := (nI (k + 1))) (lv' := [(2, .int (nI (k + 1))), (3, .int (nI 7)), (0, .ref a), (1, .int x)]) hx hb dJ7_fill_53178_14 hl (k := 1) rfl (nI_1 _) (by decide) rfl (fun ls hl => ?_)
        refine lv_goto (tgt := 5) hx hb dJ7_fill_53178_17 (by decide) ?_
        exact ih_5 (k + 1) (upd f k x) (by omega) (up_one (p := fun i y => y = x) hf rfl) (by omega) _ _ _ V (lv_sub hl [1, 0, 2, 3] rfl)
  exact L_1 _ 0 f0 (by omega) (fun i h => absurd h (Nat.not_lt_zero _)) (Nat.lt_succ_self _) _ _ _ V (lv_sub hl [0, 1, 2, 3] rfl)

def q_y_lay7 (T : Nat → ClassId) (y0 : Nat) (a0 : Nat) (tk : Int32) (sum : Int32) (ys : Int32) (y1 : Nat) (y2 : Nat) (yb : Nat → Int32) (yt : Nat → Int32) (an : Nat) (am : Int32) (al : Int32) (ao : Int32) (au : Int32) (a1 : Nat) (a2 : Nat) (a3 : Nat) (a4 : Nat) (a5 : Nat) (a6 : Nat) (a7 : Nat) (a8 : Nat) (a9 : Nat) (a10 : Nat) (af1 : Nat → Int32) (af2 : Nat → Int32) : Option Value → va_W → Prop := fun rr ww => (∃ (bs : Int32) (g1 : Nat → Int32) (g2 : Nat → Int32), rr = none ∧ ww = [(y0, .inr (0, [.int bs, .ref y1, .ref y2])), (y1, .inl (T 0, 7, .inl g1)), (y2, .inl (T 0, 7, .inl g2)), (a0, .inr (5, [.int (nI an), .int am, .int al, .int ao, .int au, .ref a1, .ref a2, .ref a3, .ref a4, .ref a5, .ref a6, .ref a7, .ref a8, .ref a9, .ref a10])), (a1, .inl (T 0, 10, .inl af1)), (a2, .inl (T 0, 10, .inl af2))] ∧ (∀ i, i < 7 → (g2 i = -1 ∨ bd (g2 i) 7)))
set_option maxHeartbeats 4000000 in
set_option maxRecDepth 100000 in
theorem y_lay7 (l : Launch) (D : va_G) (T : Nat → ClassId) (y0 : Nat) (a0 : Nat) (tk : Int32) (sum : Int32) (ys : Int32) (y1 : Nat) (y2 : Nat) (yb : Nat → Int32) (yt : Nat → Int32) (an : Nat) (am : Int32) (al : Int32) (ao : Int32) (au : Int32) (a1 : Nat) (a2 : Nat) (a3 : Nat) (a4 : Nat) (a5 : Nat) (a6 : Nat) (a7 : Nat) (a8 : Nat) (a9 : Nat) (a10 : Nat) (af1 : Nat → Int32) (af2 : Nat → Int32) (h_n : an ≤ 7) (h_yt : ∀ i, i < 7 → (yt i = -1 ∨ bd (yt i) 7)) : Ct l yX0_layFrom cX0_layFrom 7 none 2 0 0 D T [.ref y0, .ref a0, .int (nI 7), .int tk, .int sum] [(y0, .inr (0, [.int ys, .ref y1, .ref y2])), (y1, .inl (T 0, 7, .inl yb)), (y2, .inl (T 0, 7, .inl yt)), (a0, .inr (5, [.int (nI an), .int am, .int al, .int ao, .int au, .ref a1, .ref a2, .ref a3, .ref a4, .ref a5, .ref a6, .ref a7, .ref a8, .ref a9, .ref a10])), (a1, .inl (T 0, 10, .inl af1)), (a2, .inl (T 0, 10, .inl af2))] (q_y_lay7 T y0 a0 tk sum ys y1 y2 yb yt an am al ao au a1 a2 a3 a4 a5 a6 a7 a8 a9 a10 af1 af2) := by
  refine Ct.of (cc := cX0_layFrom) (maxL := 7) (ret := none) (by decide) (Nat.le_of_ble_eq_true rfl) ?_
  intro p e s m args below meth c A ls hC hnm V hl
  obtain ⟨hx, hb, hr, hml, hown, hts, hlocks⟩ := id hC
  generalize hH : s.heap = H at V ⊢
  clear hH
  have hl : lv_has ls 7 [(0, .ref y0), (1, .ref a0), (2, .int (nI 7)), (3, .int tk), (4, .int sum)] := hl
  generalize hlo : ([] : List Loc) = locs at V ⊢
  clear hlo
  refine lv_aload_n hx hb dX0_layFrom_0 rfl (lv_at hl 0 rfl) ?_
  refine g_get hC V (ci := 0) uwX0 0 rfl rfl 0 (by decide) w_211 rfl rfl dX0_layFrom_1 ?_
  refine lv_iconst (v := (-1)) hx hb dX0_layFrom_4 (by decide +kernel) ?_
  refine lv_icmp_eq (tgt := 18) hx hb dX0_layFrom_5 (by decide) (fun c_1 => ?_) (fun c_1 => ?_)
  · skip
    refine lv_iload_n hx hb dX0_layFrom_18 rfl (lv_at hl 2 rfl) ?_
    refine lv_aload_n hx hb dX0_layFrom_19 rfl (lv_at hl 1 rfl) ?_
    refine g_get hC V (ci := 5) uwX5 3 rfl rfl 0 (by decide) w_35 rfl rfl dX0_layFrom_20 ?_
    refine lv_icmp_ge (tgt := 32) hx hb dX0_layFrom_23 (by decide) (fun c_2 => ?_) (fun c_2 => ?_)
    · skip
      have c_2 := b_le (by omega) (by omega) c_2
      refine lv_aload_n hx hb dX0_layFrom_32 rfl (lv_at hl 0 rfl) ?_
      refine lv_iload hx hb dX0_layFrom_33 (lv_at hl 4 rfl) ?_
      refine g_put hC V (ci := 0) uwX0 tyX0 tyX0_ok nmX0 0 rfl rfl 0 (by decide) w_211 rfl rfl rfl rfl (Nat.le_of_ble_eq_true rfl) (ws' := [(y0, .inr (0, [.int sum, .ref y1, .ref y2])), (y1, .inl (T 0, 7, .inl yb)), (y2, .inl (T 0, 7, .inl yt)), (a0, .inr (5, [.int (nI an), .int am, .int al, .int ao, .int au, .ref a1, .ref a2, .ref a3, .ref a4, .ref a5, .ref a6, .ref a7, .ref a8, .ref a9, .ref a10])), (a1, .inl (T 0, 10, .inl af1)), (a2, .inl (T 0, 10, .inl af2))]) rfl dX0_layFrom_35 (fun H locs V => ?_)
      refine lv_aload_n hx hb dX0_layFrom_38 rfl (lv_at hl 0 rfl) ?_
      refine g_get hC V (ci := 0) uwX0 0 rfl rfl 2 (by decide) w_215 rfl rfl dX0_layFrom_39 ?_
      refine lv_iconst (v := (nI 0)) hx hb dX0_layFrom_42 (by decide +kernel) ?_
      refine lv_aload_n hx hb dX0_layFrom_43 rfl (lv_at hl 0 rfl) ?_
      refine g_get hC V (ci := 0) uwX0 0 rfl rfl 1 (by decide) w_213 rfl rfl dX0_layFrom_44 ?_
      refine lv_iconst (v := (nI 0)) hx hb dX0_layFrom_47 (by decide +kernel) ?_
      refine lv_bipush (v := (nI 7)) hx hb dX0_layFrom_48 (by decide +kernel) ?_
      refine g_copyi hC V hl.1 w_808 w_672 w_671 w_17 2 1 rfl rfl (by decide +kernel) (by decide +kernel) (Nat.le_of_ble_eq_true rfl) (Nat.le_of_ble_eq_true rfl) (Nat.le_of_ble_eq_true rfl) dX0_layFrom_50 (fun g_3 H locs V => ?_)
      have V : gW D T A s [(y0, .inr (0, [.int sum, .ref y1, .ref y2])), (y1, .inl (T 0, 7, .inl g_3)), (y2, .inl (T 0, 7, .inl yt)), (a0, .inr (5, [.int (nI an), .int am, .int al, .int ao, .int au, .ref a1, .ref a2, .ref a3, .ref a4, .ref a5, .ref a6, .ref a7, .ref a8, .ref a9, .ref a10])), (a1, .inl (T 0, 10, .inl af1)), (a2, .inl (T 0, 10, .inl af2))] H locs := V
      exact g_vret (Qr := (q_y_lay7 T y0 a0 tk sum ys y1 y2 yb yt an am al ao au a1 a2 a3 a4 a5 a6 a7 a8 a9 a10 af1 af2)) hC V ⟨(Nat.le_of_ble_eq_true rfl), (Nat.le_of_ble_eq_true rfl)⟩ ⟨sum, g_3, yt, rfl, rfl, (by first | assumption | omega)⟩ dX0_layFrom_53
    · skip
      have c_2 := b_nle (by omega) (by omega) c_2
      refine lv_iload_n hx hb dX0_layFrom_26 rfl (lv_at hl 2 rfl) ?_
      refine lv_bipush (v := (nI 7)) hx hb dX0_layFrom_27 (by decide +kernel) ?_
      refine lv_icmp_lt (tgt := 54) hx hb dX0_layFrom_29 (by decide) (fun c => absurd (show (nI 7) < (nI 7) from c) (by decide +kernel)) (fun _ => ?_)
      refine lv_aload_n hx hb dX0_layFrom_32 rfl (lv_at hl 0 rfl) ?_
      refine lv_iload hx hb dX0_layFrom_33 (lv_at hl 4 rfl) ?_
      refine g_put hC V (ci := 0) uwX0 tyX0 tyX0_ok nmX0 0 rfl rfl 0 (by decide) w_211 rfl rfl rfl rfl (Nat.le_of_ble_eq_true rfl) (ws' := [(y0, .inr (0, [.int sum, .ref y1, .ref y2])), (y1, .inl (T 0, 7, .inl yb)), (y2, .inl (T 0, 7, .inl yt)), (a0, .inr (5, [.int (nI an), .int am, .int al, .int ao, .int au, .ref a1, .ref a2, .ref a3, .ref a4, .ref a5, .ref a6, .ref a7, .ref a8, .ref a9, .ref a10])), (a1, .inl (T 0, 10, .inl af1)), (a2, .inl (T 0, 10, .inl af2))]) rfl dX0_layFrom_35 (fun H locs V => ?_)
      refine lv_aload_n hx hb dX0_layFrom_38 rfl (lv_at hl 0 rfl) ?_
      refine g_get hC V (ci := 0) uwX0 0 rfl rfl 2 (by decide) w_215 rfl rfl dX0_layFrom_39 ?_
      refine lv_iconst (v := (nI 0)) hx hb dX0_layFrom_42 (by decide +kernel) ?_
      refine lv_aload_n hx hb dX0_layFrom_43 rfl (lv_at hl 0 rfl) ?_
      refine g_get hC V (ci := 0) uwX0 0 rfl rfl 1 (by decide) w_213 rfl rfl dX0_layFrom_44 ?_
      refine lv_iconst (v := (nI 0)) hx hb dX0_layFrom_47 (by decide +kernel) ?_
      refine lv_bipush (v := (nI 7)) hx hb dX0_layFrom_48 (by decide +kernel) ?_
      refine g_copyi hC V hl.1 w_808 w_672 w_671 w_17 2 1 rfl rfl (by decide +kernel) (by decide +kernel) (Nat.le_of_ble_eq_true rfl) (Nat.le_of_ble_eq_true rfl) (Nat.le_of_ble_eq_true rfl) dX0_layFrom_50 (fun g_4 H locs V => ?_)
      have V : gW D T A s [(y0, .inr (0, [.int sum, .ref y1, .ref y2])), (y1, .inl (T 0, 7, .inl g_4)), (y2, .inl (T 0, 7, .inl yt)), (a0, .inr (5, [.int (nI an), .int am, .int al, .int ao, .int au, .ref a1, .ref a2, .ref a3, .ref a4, .ref a5, .ref a6, .ref a7, .ref a8, .ref a9, .ref a10])), (a1, .inl (T 0, 10, .inl af1)), (a2, .inl (T 0, 10, .inl af2))] H locs := V
      exact g_vret (Qr := (q_y_lay7 T y0 a0 tk sum ys y1 y2 yb yt an am al ao au a1 a2 a3 a4 a5 a6 a7 a8 a9 a10 af1 af2)) hC V ⟨(Nat.le_of_ble_eq_true rfl), (Nat.le_of_ble_eq_true rfl)⟩ ⟨sum, g_4, yt, rfl, rfl, (by first | assumption | omega)⟩ dX0_layFrom_53
  · skip
    refine lv_iload hx hb dX0_layFrom_8 (lv_at hl 4 rfl) ?_
    refine lv_aload_n hx hb dX0_layFrom_10 rfl (lv_at hl 0 rfl) ?_
    refine g_get hC V (ci := 0) uwX0 0 rfl rfl 0 (by decide) w_211 rfl rfl dX0_layFrom_11 ?_
    refine lv_icmp_lt (tgt := 18) hx hb dX0_layFrom_14 (by decide) (fun c_5 => ?_) (fun c_5 => ?_)
    · skip
      refine lv_iload_n hx hb dX0_layFrom_18 rfl (lv_at hl 2 rfl) ?_
      refine lv_aload_n hx hb dX0_layFrom_19 rfl (lv_at hl 1 rfl) ?_
      refine g_get hC V (ci := 5) uwX5 3 rfl rfl 0 (by decide) w_35 rfl rfl dX0_layFrom_20 ?_
      refine lv_icmp_ge (tgt := 32) hx hb dX0_layFrom_23 (by decide) (fun c_6 => ?_) (fun c_6 => ?_)
      · skip
        have c_6 := b_le (by omega) (by omega) c_6
        refine lv_aload_n hx hb dX0_layFrom_32 rfl (lv_at hl 0 rfl) ?_
        refine lv_iload hx hb dX0_layFrom_33 (lv_at hl 4 rfl) ?_
        refine g_put hC V (ci := 0) uwX0 tyX0 tyX0_ok nmX0 0 rfl rfl 0 (by decide) w_211 rfl rfl rfl rfl (Nat.le_of_ble_eq_true rfl) (ws' := [(y0, .inr (0, [.int sum, .ref y1, .ref y2])), (y1, .inl (T 0, 7, .inl yb)), (y2, .inl (T 0, 7, .inl yt)), (a0, .inr (5, [.int (nI an), .int am, .int al, .int ao, .int au, .ref a1, .ref a2, .ref a3, .ref a4, .ref a5, .ref a6, .ref a7, .ref a8, .ref a9, .ref a10])), (a1, .inl (T 0, 10, .inl af1)), (a2, .inl (T 0, 10, .inl af2))]) rfl dX0_layFrom_35 (fun H locs V => ?_)
        refine lv_aload_n hx hb dX0_layFrom_38 rfl (lv_at hl 0 rfl) ?_
        refine g_get hC V (ci := 0) uwX0 0 rfl rfl 2 (by decide) w_215 rfl rfl dX0_layFrom_39 ?_
        refine lv_iconst (v := (nI 0)) hx hb dX0_layFrom_42 (by decide +kernel) ?_
        refine lv_aload_n hx hb dX0_layFrom_43 rfl (lv_at hl 0 rfl) ?_
        refine g_get hC V (ci := 0) uwX0 0 rfl rfl 1 (by decide) w_213 rfl rfl dX0_layFrom_44 ?_
        refine lv_iconst (v := (nI 0)) hx hb dX0_layFrom_47 (by decide +kernel) ?_
        refine lv_bipush (v := (nI 7)) hx hb dX0_layFrom_48 (by decide +kernel) ?_
        refine g_copyi hC V hl.1 w_808 w_672 w_671 w_17 2 1 rfl rfl (by decide +kernel) (by decide +kernel) (Nat.le_of_ble_eq_true rfl) (Nat.le_of_ble_eq_true rfl) (Nat.le_of_ble_eq_true rfl) dX0_layFrom_50 (fun g_7 H locs V => ?_)
        have V : gW D T A s [(y0, .inr (0, [.int sum, .ref y1, .ref y2])), (y1, .inl (T 0, 7, .inl g_7)), (y2, .inl (T 0, 7, .inl yt)), (a0, .inr (5, [.int (nI an), .int am, .int al, .int ao, .int au, .ref a1, .ref a2, .ref a3, .ref a4, .ref a5, .ref a6, .ref a7, .ref a8, .ref a9, .ref a10])), (a1, .inl (T 0, 10, .inl af1)), (a2, .inl (T 0, 10, .inl af2))] H locs := V
        exact g_vret (Qr := (q_y_lay7 T y0 a0 tk sum ys y1 y2 yb yt an am al ao au a1 a2 a3 a4 a5 a6 a7 a8 a9 a10 af1 af2)) hC V ⟨(Nat.le_of_ble_eq_true rfl), (Nat.le_of_ble_eq_true rfl)⟩ ⟨sum, g_7, yt, rfl, rfl, (by first | assumption | omega)⟩ dX0_layFrom_53
      · skip
        have c_6 := b_nle (by omega) (by omega) c_6
        refine lv_iload_n hx hb dX0_layFrom_26 rfl (lv_at hl 2 rfl) ?_
        refine lv_bipush (v := (nI 7)) hx hb dX0_layFrom_27 (by decide +kernel) ?_
        refine lv_icmp_lt (tgt := 54) hx hb dX0_layFrom_29 (by decide) (fun c => absurd (show (nI 7) < (nI 7) from c) (by decide +kernel)) (fun _ => ?_)
        refine lv_aload_n hx hb dX0_layFrom_32 rfl (lv_at hl 0 rfl) ?_
        refine lv_iload hx hb dX0_layFrom_33 (lv_at hl 4 rfl) ?_
        refine g_put hC V (ci := 0) uwX0 tyX0 tyX0_ok nmX0 0 rfl rfl 0 (by decide) w_211 rfl rfl rfl rfl (Nat.le_of_ble_eq_true rfl) (ws' := [(y0, .inr (0, [.int sum, .ref y1, .ref y2])), (y1, .inl (T 0, 7, .inl yb)), (y2, .inl (T 0, 7, .inl yt)), (a0, .inr (5, [.int (nI an), .int am, .int al, .int ao, .int au, .ref a1, .ref a2, .ref a3, .ref a4, .ref a5, .ref a6, .ref a7, .ref a8, .ref a9, .ref a10])), (a1, .inl (T 0, 10, .inl af1)), (a2, .inl (T 0, 10, .inl af2))]) rfl dX0_layFrom_35 (fun H locs V => ?_)
        refine lv_aload_n hx hb dX0_layFrom_38 rfl (lv_at hl 0 rfl) ?_
        refine g_get hC V (ci := 0) uwX0 0 rfl rfl 2 (by decide) w_215 rfl rfl dX0_layFrom_39 ?_
        refine lv_iconst (v := (nI 0)) hx hb dX0_layFrom_42 (by decide +kernel) ?_
        refine lv_aload_n hx hb dX0_layFrom_43 rfl (lv_at hl 0 rfl) ?_
        refine g_get hC V (ci := 0) uwX0 0 rfl rfl 1 (by decide) w_213 rfl rfl dX0_layFrom_44 ?_
        refine lv_iconst (v := (nI 0)) hx hb dX0_layFrom_47 (by decide +kernel) ?_
        refine lv_bipush (v := (nI 7)) hx hb dX0_layFrom_48 (by decide +kernel) ?_
        refine g_copyi hC V hl.1 w_808 w_672 w_671 w_17 2 1 rfl rfl (by decide +kernel) (by decide +kernel) (Nat.le_of_ble_eq_true rfl) (Nat.le_of_ble_eq_true rfl) (Nat.le_of_ble_eq_true rfl) dX0_layFrom_50 (fun g_8 H locs V => ?_)
        have V : gW D T A s [(y0, .inr (0, [.int sum, .ref y1, .ref y2])), (y1, .inl (T 0, 7, .inl g_8)), (y2, .inl (T 0, 7, .inl yt)), (a0, .inr (5, [.int (nI an), .int am, .int al, .int ao, .int au, .ref a1, .ref a2, .ref a3, .ref a4, .ref a5, .ref a6, .ref a7, .ref a8, .ref a9, .ref a10])), (a1, .inl (T 0, 10, .inl af1)), (a2, .inl (T 0, 10, .inl af2))] H locs := V
        exact g_vret (Qr := (q_y_lay7 T y0 a0 tk sum ys y1 y2 yb yt an am al ao au a1 a2 a3 a4 a5 a6 a7 a8 a9 a10 af1 af2)) hC V ⟨(Nat.le_of_ble_eq_true rfl), (Nat.le_of_ble_eq_true rfl)⟩ ⟨sum, g_8, yt, rfl, rfl, (by first | assumption | omega)⟩ dX0_layFrom_53
    · skip
      exact g_vret (Qr := (q_y_lay7 T y0 a0 tk sum ys y1 y2 yb yt an am al ao au a1 a2 a3 a4 a5 a6 a7 a8 a9 a10 af1 af2)) hC V ⟨(Nat.le_of_ble_eq_true rfl), (Nat.le_of_ble_eq_true rfl)⟩ ⟨ys, yb, yt, rfl, rfl, (by first | assumption | omega)⟩ dX0_layFrom_17

def q_y_lay6 (T : Nat → ClassId) (y0 : Nat) (a0 : Nat) (tk : Int32) (sum : Int32) (ys : Int32) (y1 : Nat) (y2 : Nat) (yb : Nat → Int32) (yt : Nat → Int32) (an : Nat) (am : Int32) (al : Int32) (ao : Int32) (au : Int32) (a1 : Nat) (a2 : Nat) (a3 : Nat) (a4 : Nat) (a5 : Nat) (a6 : Nat) (a7 : Nat) (a8 : Nat) (a9 : Nat) (a10 : Nat) (af1 : Nat → Int32) (af2 : Nat → Int32) : Option Value → va_W → Prop := fun rr ww => (∃ (bs : Int32) (g1 : Nat → Int32) (g2 : Nat → Int32), rr = none ∧ ww = [(y0, .inr (0, [.int bs, .ref y1, .ref y2])), (y1, .inl (T 0, 7, .inl g1)), (y2, .inl (T 0, 7, .inl g2)), (a0, .inr (5, [.int (nI an), .int am, .int al, .int ao, .int au, .ref a1, .ref a2, .ref a3, .ref a4, .ref a5, .ref a6, .ref a7, .ref a8, .ref a9, .ref a10])), (a1, .inl (T 0, 10, .inl af1)), (a2, .inl (T 0, 10, .inl af2))] ∧ (∀ i, i < 7 → (g2 i = -1 ∨ bd (g2 i) 7)))
set_option maxHeartbeats 4000000 in
set_option maxRecDepth 100000 in
theorem y_lay6 (l : Launch) (D : va_G) (T : Nat → ClassId) (y0 : Nat) (a0 : Nat) (tk : Int32) (sum : Int32) (ys : Int32) (y1 : Nat) (y2 : Nat) (yb : Nat → Int32) (yt : Nat → Int32) (an : Nat) (am : Int32) (al : Int32) (ao : Int32) (au : Int32) (a1 : Nat) (a2 : Nat) (a3 : Nat) (a4 : Nat) (a5 : Nat) (a6 : Nat) (a7 : Nat) (a8 : Nat) (a9 : Nat) (a10 : Nat) (af1 : Nat → Int32) (af2 : Nat → Int32) (h_n : an ≤ 7) (h_yt : ∀ i, i < 7 → (yt i = -1 ∨ bd (yt i) 7)) : Ct l yX0_layFrom cX0_layFrom 7 none 3 0 0 D T [.ref y0, .ref a0, .int (nI 6), .int tk, .int sum] [(y0, .inr (0, [.int ys, .ref y1, .ref y2])), (y1, .inl (T 0, 7, .inl yb)), (y2, .inl (T 0, 7, .inl yt)), (a0, .inr (5, [.int (nI an), .int am, .int al, .int ao, .int au, .ref a1, .ref a2, .ref a3, .ref a4, .ref a5, .ref a6, .ref a7, .ref a8, .ref a9, .ref a10])), (a1, .inl (T 0, 10, .inl af1)), (a2, .inl (T 0, 10, .inl af2))] (q_y_lay6 T y0 a0 tk sum ys y1 y2 yb yt an am al ao au a1 a2 a3 a4 a5 a6 a7 a8 a9 a10 af1 af2) := by
  refine Ct.of (cc := cX0_layFrom) (maxL := 7) (ret := none) (by decide) (Nat.le_of_ble_eq_true rfl) ?_
  intro p e s m args below meth c A ls hC hnm V hl
  obtain ⟨hx, hb, hr, hml, hown, hts, hlocks⟩ := id hC
  generalize hH : s.heap = H at V ⊢
  clear hH
  have hl : lv_has ls 7 [(0, .ref y0), (1, .ref a0), (2, .int (nI 6)), (3, .int tk), (4, .int sum)] := hl
  generalize hlo : ([] : List Loc) = locs at V ⊢
  clear hlo
  refine lv_aload_n hx hb dX0_layFrom_0 rfl (lv_at hl 0 rfl) ?_
  refine g_get hC V (ci := 0) uwX0 0 rfl rfl 0 (by decide) w_211 rfl rfl dX0_layFrom_1 ?_
  refine lv_iconst (v := (-1)) hx hb dX0_layFrom_4 (by decide +kernel) ?_
  refine lv_icmp_eq (tgt := 18) hx hb dX0_layFrom_5 (by decide) (fun c_1 => ?_) (fun c_1 => ?_)
  · skip
    refine lv_iload_n hx hb dX0_layFrom_18 rfl (lv_at hl 2 rfl) ?_
    refine lv_aload_n hx hb dX0_layFrom_19 rfl (lv_at hl 1 rfl) ?_
    refine g_get hC V (ci := 5) uwX5 3 rfl rfl 0 (by decide) w_35 rfl rfl dX0_layFrom_20 ?_
    refine lv_icmp_ge (tgt := 32) hx hb dX0_layFrom_23 (by decide) (fun c_2 => ?_) (fun c_2 => ?_)
    · skip
      have c_2 := b_le (by omega) (by omega) c_2
      refine lv_aload_n hx hb dX0_layFrom_32 rfl (lv_at hl 0 rfl) ?_
      refine lv_iload hx hb dX0_layFrom_33 (lv_at hl 4 rfl) ?_
      refine g_put hC V (ci := 0) uwX0 tyX0 tyX0_ok nmX0 0 rfl rfl 0 (by decide) w_211 rfl rfl rfl rfl (Nat.le_of_ble_eq_true rfl) (ws' := [(y0, .inr (0, [.int sum, .ref y1, .ref y2])), (y1, .inl (T 0, 7, .inl yb)), (y2, .inl (T 0, 7, .inl yt)), (a0, .inr (5, [.int (nI an), .int am, .int al, .int ao, .int au, .ref a1, .ref a2, .ref a3, .ref a4, .ref a5, .ref a6, .ref a7, .ref a8, .ref a9, .ref a10])), (a1, .inl (T 0, 10, .inl af1)), (a2, .inl (T 0, 10, .inl af2))]) rfl dX0_layFrom_35 (fun H locs V => ?_)
      refine lv_aload_n hx hb dX0_layFrom_38 rfl (lv_at hl 0 rfl) ?_
      refine g_get hC V (ci := 0) uwX0 0 rfl rfl 2 (by decide) w_215 rfl rfl dX0_layFrom_39 ?_
      refine lv_iconst (v := (nI 0)) hx hb dX0_layFrom_42 (by decide +kernel) ?_
      refine lv_aload_n hx hb dX0_layFrom_43 rfl (lv_at hl 0 rfl) ?_
      refine g_get hC V (ci := 0) uwX0 0 rfl rfl 1 (by decide) w_213 rfl rfl dX0_layFrom_44 ?_
      refine lv_iconst (v := (nI 0)) hx hb dX0_layFrom_47 (by decide +kernel) ?_
      refine lv_bipush (v := (nI 7)) hx hb dX0_layFrom_48 (by decide +kernel) ?_
      refine g_copyi hC V hl.1 w_808 w_672 w_671 w_17 2 1 rfl rfl (by decide +kernel) (by decide +kernel) (Nat.le_of_ble_eq_true rfl) (Nat.le_of_ble_eq_true rfl) (Nat.le_of_ble_eq_true rfl) dX0_layFrom_50 (fun g_3 H locs V => ?_)
      have V : gW D T A s [(y0, .inr (0, [.int sum, .ref y1, .ref y2])), (y1, .inl (T 0, 7, .inl g_3)), (y2, .inl (T 0, 7, .inl yt)), (a0, .inr (5, [.int (nI an), .int am, .int al, .int ao, .int au, .ref a1, .ref a2, .ref a3, .ref a4, .ref a5, .ref a6, .ref a7, .ref a8, .ref a9, .ref a10])), (a1, .inl (T 0, 10, .inl af1)), (a2, .inl (T 0, 10, .inl af2))] H locs := V
      exact g_vret (Qr := (q_y_lay6 T y0 a0 tk sum ys y1 y2 yb yt an am al ao au a1 a2 a3 a4 a5 a6 a7 a8 a9 a10 af1 af2)) hC V ⟨(Nat.le_of_ble_eq_true rfl), (Nat.le_of_ble_eq_true rfl)⟩ ⟨sum, g_3, yt, rfl, rfl, (by first | assumption | omega)⟩ dX0_layFrom_53
    · skip
      have c_2 := b_nle (by omega) (by omega) c_2
      refine lv_iload_n hx hb dX0_layFrom_26 rfl (lv_at hl 2 rfl) ?_
      refine lv_bipush (v := (nI 7)) hx hb dX0_layFrom_27 (by decide +kernel) ?_
      refine lv_icmp_lt (tgt := 54) hx hb dX0_layFrom_29 (by decide) (fun _ => ?_) (fun c => absurd (show (nI 6) < (nI 7) by first | rfl | decide +kernel) c)
      refine lv_iconst (v := (nI 0)) hx hb dX0_layFrom_54 (by decide +kernel) ?_
      refine lv_istore (lv' := [(5, .int (nI 0)), (0, .ref y0), (1, .ref a0), (2, .int (nI 6)), (3, .int tk), (4, .int sum)]) hx hb dX0_layFrom_55 hl (by decide) rfl (fun ls hl => ?_)
      have L_4 : ∀ (fu : Nat) (k57 : Nat) (bv : Int32) (ga : Nat → Int32) (gb : Nat → Int32), k57 ≤ an → (∀ i, i < 7 → (gb i = -1 ∨ bd (gb i) 7)) → an - k57 < fu → ∀ (H : Heap) (locs : List Loc) (ls : Array Slot), gW D T A s [(y0, .inr (0, [.int bv, .ref y1, .ref y2])), (y1, .inl (T 0, 7, .inl ga)), (y2, .inl (T 0, 7, .inl gb)), (a0, .inr (5, [.int (nI an), .int am, .int al, .int ao, .int au, .ref a1, .ref a2, .ref a3, .ref a4, .ref a5, .ref a6, .ref a7, .ref a8, .ref a9, .ref a10])), (a1, .inl (T 0, 10, .inl af1)), (a2, .inl (T 0, 10, .inl af2))] H locs → lv_has ls 7 [(5, .int (nI k57)), (0, .ref y0), (1, .ref a0), (2, .int (nI 6)), (3, .int tk), (4, .int sum)] → W p l e (rmD 3 0 0) s m args below meth c H locs 0 0 (MQ below (gQ D A (q_y_lay6 T y0 a0 tk sum ys y1 y2 yb yt an am al ao au a1 a2 a3 a4 a5 a6 a7 a8 a9 a10 af1 af2)) args s 0 0 A) (F0 m 57 ls []) := by
        intro fu_57
        induction fu_57 with
        | zero => intro k57 bv ga gb hk57 hgb hmu; exact absurd hmu (Nat.not_lt_zero _)
        | succ fu_57 ih_57 =>
          intro k57 bv ga gb hk57 hgb hmu_57 H locs ls V hl
          refine lv_iload hx hb dX0_layFrom_57 (lv_at hl 0 rfl) ?_
          refine lv_aload_n hx hb dX0_layFrom_59 rfl (lv_at hl 2 rfl) ?_
          refine g_get hC V (ci := 5) uwX5 3 rfl rfl 0 (by decide) w_35 rfl rfl dX0_layFrom_60 ?_
          refine lv_icmp_ge (tgt := 145) hx hb dX0_layFrom_63 (by decide) (fun c_5 => ?_) (fun c_5 => ?_)
          · skip
            have c_5 := b_le (by omega) (by omega) c_5
            exact g_vret (Qr := (q_y_lay6 T y0 a0 tk sum ys y1 y2 yb yt an am al ao au a1 a2 a3 a4 a5 a6 a7 a8 a9 a10 af1 af2)) hC V ⟨(Nat.le_of_ble_eq_true rfl), (Nat.le_of_ble_eq_true rfl)⟩ ⟨bv, ga, gb, rfl, rfl, (by first | assumption | omega)⟩ dX0_layFrom_145
          · skip
            have c_5 := b_nle (by omega) (by omega) c_5
            refine lv_iload_n hx hb dX0_layFrom_66 rfl (lv_at hl 4 rfl) ?_
            refine lv_iload hx hb dX0_layFrom_67 (lv_at hl 0 rfl) ?_
            refine g_callSNU (nA := 2) (host := RX7) hC V hl.1 (c_isIn l D T tk (nI k57)) w_472 (List.mem_of_getElem? (i := 7) rfl) w_2 w_471 (by decide +kernel) rfl ⟨(Nat.le_of_ble_eq_true rfl), (Nat.le_of_ble_eq_true rfl)⟩ [] rfl rfl (Nat.le_of_ble_eq_true rfl) dX0_layFrom_69 ⟨(Nat.le_of_ble_eq_true rfl), (Nat.le_of_ble_eq_true rfl)⟩ rfl (fun r w1 H locs hQ V => ?_)
            rcases hQ with ⟨rfl, rfl⟩ | ⟨rfl, rfl⟩
            · have V : gW D T A s [(y0, .inr (0, [.int bv, .ref y1, .ref y2])), (y1, .inl (T 0, 7, .inl ga)), (y2, .inl (T 0, 7, .inl gb)), (a0, .inr (5, [.int (nI an), .int am, .int al, .int ao, .int au, .ref a1, .ref a2, .ref a3, .ref a4, .ref a5, .ref a6, .ref a7, .ref a8, .ref a9, .ref a10])), (a1, .inl (T 0, 10, .inl af1)), (a2, .inl (T 0, 10, .inl af2))] H locs := V _ [] rfl rfl rfl (by decide +kernel) rfl
              show W p l e _ s m args below meth c H locs _ _ _ (F0 m 72 ls [.int (nI 1)])
              refine lv_if_ne (tgt := 139) hx hb dX0_layFrom_72 (by decide) (fun _ => ?_) (fun c => absurd (show (nI 1) = 0 from c) (by decide +kernel))
              refine lv_iinc (v := (nI (k57 + 1))) (lv' := [(5, .int (nI (k57 + 1))), (0, .ref y0), (1, .ref a0), (2, .int (nI 6)), (3, .int tk), (4, .int sum)]) hx hb dX0_layFrom_139 hl (k := 0) rfl (nI_1 _) (by decide) rfl (fun ls hl => ?_)
              refine lv_goto (tgt := 57) hx hb dX0_layFrom_142 (by decide) ?_
              exact ih_57 (k57 + 1) bv ga gb (by omega) (by assumption) (by omega) _ _ _ V (lv_sub hl [0, 1, 2, 3, 4, 5] rfl)
            · have V : gW D T A s [(y0, .inr (0, [.int bv, .ref y1, .ref y2])), (y1, .inl (T 0, 7, .inl ga)), (y2, .inl (T 0, 7, .inl gb)), (a0, .inr (5, [.int (nI an), .int am, .int al, .int ao, .int au, .ref a1, .ref a2, .ref a3, .ref a4, .ref a5, .ref a6, .ref a7, .ref a8, .ref a9, .ref a10])), (a1, .inl (T 0, 10, .inl af1)), (a2, .inl (T 0, 10, .inl af2))] H locs := V _ [] rfl rfl rfl (by decide +kernel) rfl
              show W p l e _ s m args below meth c H locs _ _ _ (F0 m 72 ls [.int (nI 0)])
              refine lv_if_ne (tgt := 139) hx hb dX0_layFrom_72 (by decide) (fun c => absurd (show (nI 0) = 0 by decide +kernel) c) (fun _ => ?_)
              refine lv_aload_n hx hb dX0_layFrom_75 rfl (lv_at hl 1 rfl) ?_
              refine lv_aload_n hx hb dX0_layFrom_76 rfl (lv_at hl 2 rfl) ?_
              refine lv_iload_n hx hb dX0_layFrom_77 rfl (lv_at hl 3 rfl) ?_
              refine lv_iload hx hb dX0_layFrom_78 (lv_at hl 0 rfl) ?_
              refine g_callVU (nA := 3) hC V hl.1 (y_closes l D T y0 a0 6 k57 bv y1 y2 gb an am al ao au a1 a2 a3 a4 a5 a6 a7 a8 a9 a10 (by first | assumption | omega) hgb (by first | assumption | omega) (by first | assumption | omega)) w_810 w_812 w_s32 w_7 w_813 (by decide +kernel) rfl ⟨(Nat.le_of_ble_eq_true rfl), (Nat.le_of_ble_eq_true rfl)⟩ 0 (ci := 0) rfl rfl [0, 2, 3] rfl rfl (Nat.le_of_ble_eq_true rfl) dX0_layFrom_80 ⟨(Nat.le_of_ble_eq_true rfl), (Nat.le_of_ble_eq_true rfl)⟩ rfl (fun r w1 H locs hQ V => ?_)
              rcases hQ with ⟨rfl, rfl⟩ | ⟨rfl, rfl⟩
              · have V : gW D T A s [(y0, .inr (0, [.int bv, .ref y1, .ref y2])), (y1, .inl (T 0, 7, .inl ga)), (y2, .inl (T 0, 7, .inl gb)), (a0, .inr (5, [.int (nI an), .int am, .int al, .int ao, .int au, .ref a1, .ref a2, .ref a3, .ref a4, .ref a5, .ref a6, .ref a7, .ref a8, .ref a9, .ref a10])), (a1, .inl (T 0, 10, .inl af1)), (a2, .inl (T 0, 10, .inl af2))] H locs := V _ [0, 1, 0] rfl rfl rfl (by decide +kernel) rfl
                show W p l e _ s m args below meth c H locs _ _ _ (F0 m 83 ls [.int (nI 1)])
                refine lv_if_ne (tgt := 139) hx hb dX0_layFrom_83 (by decide) (fun _ => ?_) (fun c => absurd (show (nI 1) = 0 from c) (by decide +kernel))
                refine lv_iinc (v := (nI (k57 + 1))) (lv' := [(5, .int (nI (k57 + 1))), (0, .ref y0), (1, .ref a0), (2, .int (nI 6)), (3, .int tk), (4, .int sum)]) hx hb dX0_layFrom_139 hl (k := 0) rfl (nI_1 _) (by decide) rfl (fun ls hl => ?_)
                refine lv_goto (tgt := 57) hx hb dX0_layFrom_142 (by decide) ?_
                exact ih_57 (k57 + 1) bv ga gb (by omega) (by assumption) (by omega) _ _ _ V (lv_sub hl [0, 1, 2, 3, 4, 5] rfl)
              · have V : gW D T A s [(y0, .inr (0, [.int bv, .ref y1, .ref y2])), (y1, .inl (T 0, 7, .inl ga)), (y2, .inl (T 0, 7, .inl gb)), (a0, .inr (5, [.int (nI an), .int am, .int al, .int ao, .int au, .ref a1, .ref a2, .ref a3, .ref a4, .ref a5, .ref a6, .ref a7, .ref a8, .ref a9, .ref a10])), (a1, .inl (T 0, 10, .inl af1)), (a2, .inl (T 0, 10, .inl af2))] H locs := V _ [0, 1, 0] rfl rfl rfl (by decide +kernel) rfl
                show W p l e _ s m args below meth c H locs _ _ _ (F0 m 83 ls [.int (nI 0)])
                refine lv_if_ne (tgt := 139) hx hb dX0_layFrom_83 (by decide) (fun c => absurd (show (nI 0) = 0 by decide +kernel) c) (fun _ => ?_)
                refine lv_aload_n hx hb dX0_layFrom_86 rfl (lv_at hl 1 rfl) ?_
                refine g_get hC V (ci := 0) uwX0 0 rfl rfl 2 (by decide) w_215 rfl rfl dX0_layFrom_87 ?_
                refine lv_iload_n hx hb dX0_layFrom_90 rfl (lv_at hl 3 rfl) ?_
                refine lv_iload hx hb dX0_layFrom_91 (lv_at hl 0 rfl) ?_
                refine g_iast hC V 2 rfl (vp_in_nI (by decide) (by decide)) (f' := (upd gb 6 (nI k57))) (by rw [nI_clamp (by decide)]) (ws' := [(y0, .inr (0, [.int bv, .ref y1, .ref y2])), (y1, .inl (T 0, 7, .inl ga)), (y2, .inl (T 0, 7, .inl (upd gb 6 (nI k57)))), (a0, .inr (5, [.int (nI an), .int am, .int al, .int ao, .int au, .ref a1, .ref a2, .ref a3, .ref a4, .ref a5, .ref a6, .ref a7, .ref a8, .ref a9, .ref a10])), (a1, .inl (T 0, 10, .inl af1)), (a2, .inl (T 0, 10, .inl af2))]) rfl dX0_layFrom_93 (fun H locs V => ?_)
                refine lv_aload_n hx hb dX0_layFrom_94 rfl (lv_at hl 2 rfl) ?_
                refine g_get hC V (ci := 5) uwX5 3 rfl rfl 5 (by decide) w_52 rfl rfl dX0_layFrom_95 ?_
                refine lv_iload_n hx hb dX0_layFrom_98 rfl (lv_at hl 3 rfl) ?_
                refine g_iald hC V 4 rfl (vp_in_nI (by decide) (by decide)) (v := (af1 6)) (congrArg _ (nI_clamp (by decide))) dX0_layFrom_99 ?_
                refine lv_aload_n hx hb dX0_layFrom_100 rfl (lv_at hl 2 rfl) ?_
                refine g_get hC V (ci := 5) uwX5 3 rfl rfl 6 (by decide) w_58 rfl rfl dX0_layFrom_101 ?_
                refine lv_iload hx hb dX0_layFrom_104 (lv_at hl 0 rfl) ?_
                refine g_iald hC V 5 rfl (vp_in_nI (by omega) (by omega)) (v := (af2 k57)) (congrArg _ (nI_clamp (by omega))) dX0_layFrom_106 ?_
                refine lv_isub hx hb dX0_layFrom_107 ?_
                refine va_mabs hx hb (hml.trans hl.1.symm) hown (hts _ w_814) (hts _ w_815) (hts _ w_10) (hts _ w_816) (Nat.le_of_ble_eq_true rfl) (Nat.le_of_ble_eq_true rfl) (Nat.le_of_ble_eq_true rfl) (Nat.le_of_ble_eq_true rfl) dX0_layFrom_108 ?_
                refine lv_topi (fun x_6 ex_6 => ?_)
                refine lv_istore (lv' := [(6, .int x_6), (5, .int (nI k57)), (0, .ref y0), (1, .ref a0), (2, .int (nI 6)), (3, .int tk), (4, .int sum)]) hx hb dX0_layFrom_111 hl (by decide) rfl (fun ls hl => ?_)
                refine lv_aload_n hx hb dX0_layFrom_113 rfl (lv_at hl 2 rfl) ?_
                refine lv_aload_n hx hb dX0_layFrom_114 rfl (lv_at hl 3 rfl) ?_
                refine lv_iload_n hx hb dX0_layFrom_115 rfl (lv_at hl 4 rfl) ?_
                refine lv_iconst (v := (nI 1)) hx hb dX0_layFrom_116 (by decide +kernel) ?_
                refine lv_iadd hx hb dX0_layFrom_117 ?_
                refine g_vi (y := (nI 7)) (by decide +kernel) ?_
                refine lv_iload_n hx hb dX0_layFrom_118 rfl (lv_at hl 5 rfl) ?_
                refine lv_iconst (v := (nI 1)) hx hb dX0_layFrom_119 (by decide +kernel) ?_
                refine lv_iload hx hb dX0_layFrom_120 (lv_at hl 1 rfl) ?_
                refine lv_ishl hx hb dX0_layFrom_122 ?_
                refine lv_ior hx hb dX0_layFrom_123 ?_
                refine lv_iload hx hb dX0_layFrom_124 (lv_at hl 6 rfl) ?_
                refine lv_iload hx hb dX0_layFrom_126 (lv_at hl 0 rfl) ?_
                refine lv_iadd hx hb dX0_layFrom_128 ?_
                refine g_callV (wr := []) (nA := 4) hC V hl.1 (y_lay7 l D T y0 a0 (tk ||| ((nI 1) <<< ((nI k57) &&& 31))) (sum + x_6) bv y1 y2 ga (upd gb 6 (nI k57)) an am al ao au a1 a2 a3 a4 a5 a6 a7 a8 a9 a10 af1 af2 (by first | assumption | omega) (up_all (p := fun x => x = -1 ∨ bd x 7) hgb (fun _ => Or.inr (bd_nI (by omega))))) w_804 w_806 w_s31 w_7 w_807 (by decide +kernel) rfl ⟨(Nat.le_of_ble_eq_true rfl), (Nat.le_of_ble_eq_true rfl)⟩ 0 (ci := 0) rfl rfl [0, 1, 2, 3, 4, 5] [] rfl rfl rfl rfl (by decide) (Nat.le_of_ble_eq_true rfl) dX0_layFrom_129 ⟨(Nat.le_of_ble_eq_true rfl), (Nat.le_of_ble_eq_true rfl)⟩ rfl (fun r w1 H locs hQ V => ?_)
                obtain ⟨bs_7, g1_8, g2_9, rfl, rfl, f_10⟩ := hQ
                have V : gW D T A s [(y0, .inr (0, [.int bs_7, .ref y1, .ref y2])), (y1, .inl (T 0, 7, .inl g1_8)), (y2, .inl (T 0, 7, .inl g2_9)), (a0, .inr (5, [.int (nI an), .int am, .int al, .int ao, .int au, .ref a1, .ref a2, .ref a3, .ref a4, .ref a5, .ref a6, .ref a7, .ref a8, .ref a9, .ref a10])), (a1, .inl (T 0, 10, .inl af1)), (a2, .inl (T 0, 10, .inl af2))] H locs := V
                show W p l e _ s m args below meth c H locs _ _ _ (F0 m 132 ls [])
                have hq := up_all (p := fun x => x = -1 ∨ bd x 7) (k := 6) (x := -1) f_10 (fun _ => Or.inl rfl)
                refine lv_aload_n hx hb dX0_layFrom_132 rfl (lv_at hl 2 rfl) ?_
                refine g_get hC V (ci := 0) uwX0 0 rfl rfl 2 (by decide) w_215 rfl rfl dX0_layFrom_133 ?_
                refine lv_iload_n hx hb dX0_layFrom_136 rfl (lv_at hl 4 rfl) ?_
                refine lv_iconst (v := (-1)) hx hb dX0_layFrom_137 (by decide +kernel) ?_
                refine g_iast hC V 2 rfl (vp_in_nI (by decide) (by decide)) (f' := (upd g2_9 6 (-1))) (by rw [nI_clamp (by decide)]) (ws' := [(y0, .inr (0, [.int bs_7, .ref y1, .ref y2])), (y1, .inl (T 0, 7, .inl g1_8)), (y2, .inl (T 0, 7, .inl (upd g2_9 6 (-1)))), (a0, .inr (5, [.int (nI an), .int am, .int al, .int ao, .int au, .ref a1, .ref a2, .ref a3, .ref a4, .ref a5, .ref a6, .ref a7, .ref a8, .ref a9, .ref a10])), (a1, .inl (T 0, 10, .inl af1)), (a2, .inl (T 0, 10, .inl af2))]) rfl dX0_layFrom_138 (fun H locs V => ?_)
                refine lv_iinc (v := (nI (k57 + 1))) (lv' := [(5, .int (nI (k57 + 1))), (6, .int x_6), (0, .ref y0), (1, .ref a0), (2, .int (nI 6)), (3, .int tk), (4, .int sum)]) hx hb dX0_layFrom_139 hl (k := 1) rfl (nI_1 _) (by decide) rfl (fun ls hl => ?_)
                refine lv_goto (tgt := 57) hx hb dX0_layFrom_142 (by decide) ?_
                exact ih_57 (k57 + 1) bs_7 g1_8 (upd g2_9 6 (-1)) (by omega) (by assumption) (by omega) _ _ _ V (lv_sub hl [0, 2, 3, 4, 5, 6] rfl)
      exact L_4 _ 0 ys yb yt (by omega) h_yt (Nat.lt_succ_self _) _ _ _ V (lv_sub hl [0, 1, 2, 3, 4, 5] rfl)
  · skip
    refine lv_iload hx hb dX0_layFrom_8 (lv_at hl 4 rfl) ?_
    refine lv_aload_n hx hb dX0_layFrom_10 rfl (lv_at hl 0 rfl) ?_
    refine g_get hC V (ci := 0) uwX0 0 rfl rfl 0 (by decide) w_211 rfl rfl dX0_layFrom_11 ?_
    refine lv_icmp_lt (tgt := 18) hx hb dX0_layFrom_14 (by decide) (fun c_11 => ?_) (fun c_11 => ?_)
    · skip
      refine lv_iload_n hx hb dX0_layFrom_18 rfl (lv_at hl 2 rfl) ?_
      refine lv_aload_n hx hb dX0_layFrom_19 rfl (lv_at hl 1 rfl) ?_
      refine g_get hC V (ci := 5) uwX5 3 rfl rfl 0 (by decide) w_35 rfl rfl dX0_layFrom_20 ?_
      refine lv_icmp_ge (tgt := 32) hx hb dX0_layFrom_23 (by decide) (fun c_12 => ?_) (fun c_12 => ?_)
      · skip
        have c_12 := b_le (by omega) (by omega) c_12
        refine lv_aload_n hx hb dX0_layFrom_32 rfl (lv_at hl 0 rfl) ?_
        refine lv_iload hx hb dX0_layFrom_33 (lv_at hl 4 rfl) ?_
        refine g_put hC V (ci := 0) uwX0 tyX0 tyX0_ok nmX0 0 rfl rfl 0 (by decide) w_211 rfl rfl rfl rfl (Nat.le_of_ble_eq_true rfl) (ws' := [(y0, .inr (0, [.int sum, .ref y1, .ref y2])), (y1, .inl (T 0, 7, .inl yb)), (y2, .inl (T 0, 7, .inl yt)), (a0, .inr (5, [.int (nI an), .int am, .int al, .int ao, .int au, .ref a1, .ref a2, .ref a3, .ref a4, .ref a5, .ref a6, .ref a7, .ref a8, .ref a9, .ref a10])), (a1, .inl (T 0, 10, .inl af1)), (a2, .inl (T 0, 10, .inl af2))]) rfl dX0_layFrom_35 (fun H locs V => ?_)
        refine lv_aload_n hx hb dX0_layFrom_38 rfl (lv_at hl 0 rfl) ?_
        refine g_get hC V (ci := 0) uwX0 0 rfl rfl 2 (by decide) w_215 rfl rfl dX0_layFrom_39 ?_
        refine lv_iconst (v := (nI 0)) hx hb dX0_layFrom_42 (by decide +kernel) ?_
        refine lv_aload_n hx hb dX0_layFrom_43 rfl (lv_at hl 0 rfl) ?_
        refine g_get hC V (ci := 0) uwX0 0 rfl rfl 1 (by decide) w_213 rfl rfl dX0_layFrom_44 ?_
        refine lv_iconst (v := (nI 0)) hx hb dX0_layFrom_47 (by decide +kernel) ?_
        refine lv_bipush (v := (nI 7)) hx hb dX0_layFrom_48 (by decide +kernel) ?_
        refine g_copyi hC V hl.1 w_808 w_672 w_671 w_17 2 1 rfl rfl (by decide +kernel) (by decide +kernel) (Nat.le_of_ble_eq_true rfl) (Nat.le_of_ble_eq_true rfl) (Nat.le_of_ble_eq_true rfl) dX0_layFrom_50 (fun g_13 H locs V => ?_)
        have V : gW D T A s [(y0, .inr (0, [.int sum, .ref y1, .ref y2])), (y1, .inl (T 0, 7, .inl g_13)), (y2, .inl (T 0, 7, .inl yt)), (a0, .inr (5, [.int (nI an), .int am, .int al, .int ao, .int au, .ref a1, .ref a2, .ref a3, .ref a4, .ref a5, .ref a6, .ref a7, .ref a8, .ref a9, .ref a10])), (a1, .inl (T 0, 10, .inl af1)), (a2, .inl (T 0, 10, .inl af2))] H locs := V
        exact g_vret (Qr := (q_y_lay6 T y0 a0 tk sum ys y1 y2 yb yt an am al ao au a1 a2 a3 a4 a5 a6 a7 a8 a9 a10 af1 af2)) hC V ⟨(Nat.le_of_ble_eq_true rfl), (Nat.le_of_ble_eq_true rfl)⟩ ⟨sum, g_13, yt, rfl, rfl, (by first | assumption | omega)⟩ dX0_layFrom_53
      · skip
        have c_12 := b_nle (by omega) (by omega) c_12
        refine lv_iload_n hx hb dX0_layFrom_26 rfl (lv_at hl 2 rfl) ?_
        refine lv_bipush (v := (nI 7)) hx hb dX0_layFrom_27 (by decide +kernel) ?_
        refine lv_icmp_lt (tgt := 54) hx hb dX0_layFrom_29 (by decide) (fun _ => ?_) (fun c => absurd (show (nI 6) < (nI 7) by first | rfl | decide +kernel) c)
        refine lv_iconst (v := (nI 0)) hx hb dX0_layFrom_54 (by decide +kernel) ?_
        refine lv_istore (lv' := [(5, .int (nI 0)), (0, .ref y0), (1, .ref a0), (2, .int (nI 6)), (3, .int tk), (4, .int sum)]) hx hb dX0_layFrom_55 hl (by decide) rfl (fun ls hl => ?_)
        have L_14 : ∀ (fu : Nat) (k57 : Nat) (bv : Int32) (ga : Nat → Int32) (gb : Nat → Int32), k57 ≤ an → (∀ i, i < 7 → (gb i = -1 ∨ bd (gb i) 7)) → an - k57 < fu → ∀ (H : Heap) (locs : List Loc) (ls : Array Slot), gW D T A s [(y0, .inr (0, [.int bv, .ref y1, .ref y2])), (y1, .inl (T 0, 7, .inl ga)), (y2, .inl (T 0, 7, .inl gb)), (a0, .inr (5, [.int (nI an), .int am, .int al, .int ao, .int au, .ref a1, .ref a2, .ref a3, .ref a4, .ref a5, .ref a6, .ref a7, .ref a8, .ref a9, .ref a10])), (a1, .inl (T 0, 10, .inl af1)), (a2, .inl (T 0, 10, .inl af2))] H locs → lv_has ls 7 [(5, .int (nI k57)), (0, .ref y0), (1, .ref a0), (2, .int (nI 6)), (3, .int tk), (4, .int sum)] → W p l e (rmD 3 0 0) s m args below meth c H locs 0 0 (MQ below (gQ D A (q_y_lay6 T y0 a0 tk sum ys y1 y2 yb yt an am al ao au a1 a2 a3 a4 a5 a6 a7 a8 a9 a10 af1 af2)) args s 0 0 A) (F0 m 57 ls []) := by
          intro fu_57
          induction fu_57 with
          | zero => intro k57 bv ga gb hk57 hgb hmu; exact absurd hmu (Nat.not_lt_zero _)
          | succ fu_57 ih_57 =>
            intro k57 bv ga gb hk57 hgb hmu_57 H locs ls V hl
            refine lv_iload hx hb dX0_layFrom_57 (lv_at hl 0 rfl) ?_
            refine lv_aload_n hx hb dX0_layFrom_59 rfl (lv_at hl 2 rfl) ?_
            refine g_get hC V (ci := 5) uwX5 3 rfl rfl 0 (by decide) w_35 rfl rfl dX0_layFrom_60 ?_
            refine lv_icmp_ge (tgt := 145) hx hb dX0_layFrom_63 (by decide) (fun c_15 => ?_) (fun c_15 => ?_)
            · skip
              have c_15 := b_le (by omega) (by omega) c_15
              exact g_vret (Qr := (q_y_lay6 T y0 a0 tk sum ys y1 y2 yb yt an am al ao au a1 a2 a3 a4 a5 a6 a7 a8 a9 a10 af1 af2)) hC V ⟨(Nat.le_of_ble_eq_true rfl), (Nat.le_of_ble_eq_true rfl)⟩ ⟨bv, ga, gb, rfl, rfl, (by first | assumption | omega)⟩ dX0_layFrom_145
            · skip
              have c_15 := b_nle (by omega) (by omega) c_15
              refine lv_iload_n hx hb dX0_layFrom_66 rfl (lv_at hl 4 rfl) ?_
              refine lv_iload hx hb dX0_layFrom_67 (lv_at hl 0 rfl) ?_
              refine g_callSNU (nA := 2) (host := RX7) hC V hl.1 (c_isIn l D T tk (nI k57)) w_472 (List.mem_of_getElem? (i := 7) rfl) w_2 w_471 (by decide +kernel) rfl ⟨(Nat.le_of_ble_eq_true rfl), (Nat.le_of_ble_eq_true rfl)⟩ [] rfl rfl (Nat.le_of_ble_eq_true rfl) dX0_layFrom_69 ⟨(Nat.le_of_ble_eq_true rfl), (Nat.le_of_ble_eq_true rfl)⟩ rfl (fun r w1 H locs hQ V => ?_)
              rcases hQ with ⟨rfl, rfl⟩ | ⟨rfl, rfl⟩
              · have V : gW D T A s [(y0, .inr (0, [.int bv, .ref y1, .ref y2])), (y1, .inl (T 0, 7, .inl ga)), (y2, .inl (T 0, 7, .inl gb)), (a0, .inr (5, [.int (nI an), .int am, .int al, .int ao, .int au, .ref a1, .ref a2, .ref a3, .ref a4, .ref a5, .ref a6, .ref a7, .ref a8, .ref a9, .ref a10])), (a1, .inl (T 0, 10, .inl af1)), (a2, .inl (T 0, 10, .inl af2))] H locs := V _ [] rfl rfl rfl (by decide +kernel) rfl
                show W p l e _ s m args below meth c H locs _ _ _ (F0 m 72 ls [.int (nI 1)])
                refine lv_if_ne (tgt := 139) hx hb dX0_layFrom_72 (by decide) (fun _ => ?_) (fun c => absurd (show (nI 1) = 0 from c) (by decide +kernel))
                refine lv_iinc (v := (nI (k57 + 1))) (lv' := [(5, .int (nI (k57 + 1))), (0, .ref y0), (1, .ref a0), (2, .int (nI 6)), (3, .int tk), (4, .int sum)]) hx hb dX0_layFrom_139 hl (k := 0) rfl (nI_1 _) (by decide) rfl (fun ls hl => ?_)
                refine lv_goto (tgt := 57) hx hb dX0_layFrom_142 (by decide) ?_
                exact ih_57 (k57 + 1) bv ga gb (by omega) (by assumption) (by omega) _ _ _ V (lv_sub hl [0, 1, 2, 3, 4, 5] rfl)
              · have V : gW D T A s [(y0, .inr (0, [.int bv, .ref y1, .ref y2])), (y1, .inl (T 0, 7, .inl ga)), (y2, .inl (T 0, 7, .inl gb)), (a0, .inr (5, [.int (nI an), .int am, .int al, .int ao, .int au, .ref a1, .ref a2, .ref a3, .ref a4, .ref a5, .ref a6, .ref a7, .ref a8, .ref a9, .ref a10])), (a1, .inl (T 0, 10, .inl af1)), (a2, .inl (T 0, 10, .inl af2))] H locs := V _ [] rfl rfl rfl (by decide +kernel) rfl
                show W p l e _ s m args below meth c H locs _ _ _ (F0 m 72 ls [.int (nI 0)])
                refine lv_if_ne (tgt := 139) hx hb dX0_layFrom_72 (by decide) (fun c => absurd (show (nI 0) = 0 by decide +kernel) c) (fun _ => ?_)
                refine lv_aload_n hx hb dX0_layFrom_75 rfl (lv_at hl 1 rfl) ?_
                refine lv_aload_n hx hb dX0_layFrom_76 rfl (lv_at hl 2 rfl) ?_
                refine lv_iload_n hx hb dX0_layFrom_77 rfl (lv_at hl 3 rfl) ?_
                refine lv_iload hx hb dX0_layFrom_78 (lv_at hl 0 rfl) ?_
                refine g_callVU (nA := 3) hC V hl.1 (y_closes l D T y0 a0 6 k57 bv y1 y2 gb an am al ao au a1 a2 a3 a4 a5 a6 a7 a8 a9 a10 (by first | assumption | omega) hgb (by first | assumption | omega) (by first | assumption | omega)) w_810 w_812 w_s32 w_7 w_813 (by decide +kernel) rfl ⟨(Nat.le_of_ble_eq_true rfl), (Nat.le_of_ble_eq_true rfl)⟩ 0 (ci := 0) rfl rfl [0, 2, 3] rfl rfl (Nat.le_of_ble_eq_true rfl) dX0_layFrom_80 ⟨(Nat.le_of_ble_eq_true rfl), (Nat.le_of_ble_eq_true rfl)⟩ rfl (fun r w1 H locs hQ V => ?_)
                rcases hQ with ⟨rfl, rfl⟩ | ⟨rfl, rfl⟩
                · have V : gW D T A s [(y0, .inr (0, [.int bv, .ref y1, .ref y2])), (y1, .inl (T 0, 7, .inl ga)), (y2, .inl (T 0, 7, .inl gb)), (a0, .inr (5, [.int (nI an), .int am, .int al, .int ao, .int au, .ref a1, .ref a2, .ref a3, .ref a4, .ref a5, .ref a6, .ref a7, .ref a8, .ref a9, .ref a10])), (a1, .inl (T 0, 10, .inl af1)), (a2, .inl (T 0, 10, .inl af2))] H locs := V _ [0, 1, 0] rfl rfl rfl (by decide +kernel) rfl
                  show W p l e _ s m args below meth c H locs _ _ _ (F0 m 83 ls [.int (nI 1)])
                  refine lv_if_ne (tgt := 139) hx hb dX0_layFrom_83 (by decide) (fun _ => ?_) (fun c => absurd (show (nI 1) = 0 from c) (by decide +kernel))
                  refine lv_iinc (v := (nI (k57 + 1))) (lv' := [(5, .int (nI (k57 + 1))), (0, .ref y0), (1, .ref a0), (2, .int (nI 6)), (3, .int tk), (4, .int sum)]) hx hb dX0_layFrom_139 hl (k := 0) rfl (nI_1 _) (by decide) rfl (fun ls hl => ?_)
                  refine lv_goto (tgt := 57) hx hb dX0_layFrom_142 (by decide) ?_
                  exact ih_57 (k57 + 1) bv ga gb (by omega) (by assumption) (by omega) _ _ _ V (lv_sub hl [0, 1, 2, 3, 4, 5] rfl)
                · have V : gW D T A s [(y0, .inr (0, [.int bv, .ref y1, .ref y2])), (y1, .inl (T 0, 7, .inl ga)), (y2, .inl (T 0, 7, .inl gb)), (a0, .inr (5, [.int (nI an), .int am, .int al, .int ao, .int au, .ref a1, .ref a2, .ref a3, .ref a4, .ref a5, .ref a6, .ref a7, .ref a8, .ref a9, .ref a10])), (a1, .inl (T 0, 10, .inl af1)), (a2, .inl (T 0, 10, .inl af2))] H locs := V _ [0, 1, 0] rfl rfl rfl (by decide +kernel) rfl
                  show W p l e _ s m args below meth c H locs _ _ _ (F0 m 83 ls [.int (nI 0)])
                  refine lv_if_ne (tgt := 139) hx hb dX0_layFrom_83 (by decide) (fun c => absurd (show (nI 0) = 0 by decide +kernel) c) (fun _ => ?_)
                  refine lv_aload_n hx hb dX0_layFrom_86 rfl (lv_at hl 1 rfl) ?_
                  refine g_get hC V (ci := 0) uwX0 0 rfl rfl 2 (by decide) w_215 rfl rfl dX0_layFrom_87 ?_
                  refine lv_iload_n hx hb dX0_layFrom_90 rfl (lv_at hl 3 rfl) ?_
                  refine lv_iload hx hb dX0_layFrom_91 (lv_at hl 0 rfl) ?_
                  refine g_iast hC V 2 rfl (vp_in_nI (by decide) (by decide)) (f' := (upd gb 6 (nI k57))) (by rw [nI_clamp (by decide)]) (ws' := [(y0, .inr (0, [.int bv, .ref y1, .ref y2])), (y1, .inl (T 0, 7, .inl ga)), (y2, .inl (T 0, 7, .inl (upd gb 6 (nI k57)))), (a0, .inr (5, [.int (nI an), .int am, .int al, .int ao, .int au, .ref a1, .ref a2, .ref a3, .ref a4, .ref a5, .ref a6, .ref a7, .ref a8, .ref a9, .ref a10])), (a1, .inl (T 0, 10, .inl af1)), (a2, .inl (T 0, 10, .inl af2))]) rfl dX0_layFrom_93 (fun H locs V => ?_)
                  refine lv_aload_n hx hb dX0_layFrom_94 rfl (lv_at hl 2 rfl) ?_
                  refine g_get hC V (ci := 5) uwX5 3 rfl rfl 5 (by decide) w_52 rfl rfl dX0_layFrom_95 ?_
                  refine lv_iload_n hx hb dX0_layFrom_98 rfl (lv_at hl 3 rfl) ?_
                  refine g_iald hC V 4 rfl (vp_in_nI (by decide) (by decide)) (v := (af1 6)) (congrArg _ (nI_clamp (by decide))) dX0_layFrom_99 ?_
                  refine lv_aload_n hx hb dX0_layFrom_100 rfl (lv_at hl 2 rfl) ?_
                  refine g_get hC V (ci := 5) uwX5 3 rfl rfl 6 (by decide) w_58 rfl rfl dX0_layFrom_101 ?_
                  refine lv_iload hx hb dX0_layFrom_104 (lv_at hl 0 rfl) ?_
                  refine g_iald hC V 5 rfl (vp_in_nI (by omega) (by omega)) (v := (af2 k57)) (congrArg _ (nI_clamp (by omega))) dX0_layFrom_106 ?_
                  refine lv_isub hx hb dX0_layFrom_107 ?_
                  refine va_mabs hx hb (hml.trans hl.1.symm) hown (hts _ w_814) (hts _ w_815) (hts _ w_10) (hts _ w_816) (Nat.le_of_ble_eq_true rfl) (Nat.le_of_ble_eq_true rfl) (Nat.le_of_ble_eq_true rfl) (Nat.le_of_ble_eq_true rfl) dX0_layFrom_108 ?_
                  refine lv_topi (fun x_16 ex_16 => ?_)
                  refine lv_istore (lv' := [(6, .int x_16), (5, .int (nI k57)), (0, .ref y0), (1, .ref a0), (2, .int (nI 6)), (3, .int tk), (4, .int sum)]) hx hb dX0_layFrom_111 hl (by decide) rfl (fun ls hl => ?_)
                  refine lv_aload_n hx hb dX0_layFrom_113 rfl (lv_at hl 2 rfl) ?_
                  refine lv_aload_n hx hb dX0_layFrom_114 rfl (lv_at hl 3 rfl) ?_
                  refine lv_iload_n hx hb dX0_layFrom_115 rfl (lv_at hl 4 rfl) ?_
                  refine lv_iconst (v := (nI 1)) hx hb dX0_layFrom_116 (by decide +kernel) ?_
                  refine lv_iadd hx hb dX0_layFrom_117 ?_
                  refine g_vi (y := (nI 7)) (by decide +kernel) ?_
                  refine lv_iload_n hx hb dX0_layFrom_118 rfl (lv_at hl 5 rfl) ?_
                  refine lv_iconst (v := (nI 1)) hx hb dX0_layFrom_119 (by decide +kernel) ?_
                  refine lv_iload hx hb dX0_layFrom_120 (lv_at hl 1 rfl) ?_
                  refine lv_ishl hx hb dX0_layFrom_122 ?_
                  refine lv_ior hx hb dX0_layFrom_123 ?_
                  refine lv_iload hx hb dX0_layFrom_124 (lv_at hl 6 rfl) ?_
                  refine lv_iload hx hb dX0_layFrom_126 (lv_at hl 0 rfl) ?_
                  refine lv_iadd hx hb dX0_layFrom_128 ?_
                  refine g_callV (wr := []) (nA := 4) hC V hl.1 (y_lay7 l D T y0 a0 (tk ||| ((nI 1) <<< ((nI k57) &&& 31))) (sum + x_16) bv y1 y2 ga (upd gb 6 (nI k57)) an am al ao au a1 a2 a3 a4 a5 a6 a7 a8 a9 a10 af1 af2 (by first | assumption | omega) (up_all (p := fun x => x = -1 ∨ bd x 7) hgb (fun _ => Or.inr (bd_nI (by omega))))) w_804 w_806 w_s31 w_7 w_807 (by decide +kernel) rfl ⟨(Nat.le_of_ble_eq_true rfl), (Nat.le_of_ble_eq_true rfl)⟩ 0 (ci := 0) rfl rfl [0, 1, 2, 3, 4, 5] [] rfl rfl rfl rfl (by decide) (Nat.le_of_ble_eq_true rfl) dX0_layFrom_129 ⟨(Nat.le_of_ble_eq_true rfl), (Nat.le_of_ble_eq_true rfl)⟩ rfl (fun r w1 H locs hQ V => ?_)
                  obtain ⟨bs_17, g1_18, g2_19, rfl, rfl, f_20⟩ := hQ
                  have V : gW D T A s [(y0, .inr (0, [.int bs_17, .ref y1, .ref y2])), (y1, .inl (T 0, 7, .inl g1_18)), (y2, .inl (T 0, 7, .inl g2_19)), (a0, .inr (5, [.int (nI an), .int am, .int al, .int ao, .int au, .ref a1, .ref a2, .ref a3, .ref a4, .ref a5, .ref a6, .ref a7, .ref a8, .ref a9, .ref a10])), (a1, .inl (T 0, 10, .inl af1)), (a2, .inl (T 0, 10, .inl af2))] H locs := V
                  show W p l e _ s m args below meth c H locs _ _ _ (F0 m 132 ls [])
                  have hq := up_all (p := fun x => x = -1 ∨ bd x 7) (k := 6) (x := -1) f_20 (fun _ => Or.inl rfl)
                  refine lv_aload_n hx hb dX0_layFrom_132 rfl (lv_at hl 2 rfl) ?_
                  refine g_get hC V (ci := 0) uwX0 0 rfl rfl 2 (by decide) w_215 rfl rfl dX0_layFrom_133 ?_
                  refine lv_iload_n hx hb dX0_layFrom_136 rfl (lv_at hl 4 rfl) ?_
                  refine lv_iconst (v := (-1)) hx hb dX0_layFrom_137 (by decide +kernel) ?_
                  refine g_iast hC V 2 rfl (vp_in_nI (by decide) (by decide)) (f' := (upd g2_19 6 (-1))) (by rw [nI_clamp (by decide)]) (ws' := [(y0, .inr (0, [.int bs_17, .ref y1, .ref y2])), (y1, .inl (T 0, 7, .inl g1_18)), (y2, .inl (T 0, 7, .inl (upd g2_19 6 (-1)))), (a0, .inr (5, [.int (nI an), .int am, .int al, .int ao, .int au, .ref a1, .ref a2, .ref a3, .ref a4, .ref a5, .ref a6, .ref a7, .ref a8, .ref a9, .ref a10])), (a1, .inl (T 0, 10, .inl af1)), (a2, .inl (T 0, 10, .inl af2))]) rfl dX0_layFrom_138 (fun H locs V => ?_)
                  refine lv_iinc (v := (nI (k57 + 1))) (lv' := [(5, .int (nI (k57 + 1))), (6, .int x_16), (0, .ref y0), (1, .ref a0), (2, .int (nI 6)), (3, .int tk), (4, .int sum)]) hx hb dX0_layFrom_139 hl (k := 1) rfl (nI_1 _) (by decide) rfl (fun ls hl => ?_)
                  refine lv_goto (tgt := 57) hx hb dX0_layFrom_142 (by decide) ?_
                  exact ih_57 (k57 + 1) bs_17 g1_18 (upd g2_19 6 (-1)) (by omega) (by assumption) (by omega) _ _ _ V (lv_sub hl [0, 2, 3, 4, 5, 6] rfl)
        exact L_14 _ 0 ys yb yt (by omega) h_yt (Nat.lt_succ_self _) _ _ _ V (lv_sub hl [0, 1, 2, 3, 4, 5] rfl)
    · skip
      exact g_vret (Qr := (q_y_lay6 T y0 a0 tk sum ys y1 y2 yb yt an am al ao au a1 a2 a3 a4 a5 a6 a7 a8 a9 a10 af1 af2)) hC V ⟨(Nat.le_of_ble_eq_true rfl), (Nat.le_of_ble_eq_true rfl)⟩ ⟨ys, yb, yt, rfl, rfl, (by first | assumption | omega)⟩ dX0_layFrom_17

def q_y_lay5 (T : Nat → ClassId) (y0 : Nat) (a0 : Nat) (tk : Int32) (sum : Int32) (ys : Int32) (y1 : Nat) (y2 : Nat) (yb : Nat → Int32) (yt : Nat → Int32) (an : Nat) (am : Int32) (al : Int32) (ao : Int32) (au : Int32) (a1 : Nat) (a2 : Nat) (a3 : Nat) (a4 : Nat) (a5 : Nat) (a6 : Nat) (a7 : Nat) (a8 : Nat) (a9 : Nat) (a10 : Nat) (af1 : Nat → Int32) (af2 : Nat → Int32) : Option Value → va_W → Prop := fun rr ww => (∃ (bs : Int32) (g1 : Nat → Int32) (g2 : Nat → Int32), rr = none ∧ ww = [(y0, .inr (0, [.int bs, .ref y1, .ref y2])), (y1, .inl (T 0, 7, .inl g1)), (y2, .inl (T 0, 7, .inl g2)), (a0, .inr (5, [.int (nI an), .int am, .int al, .int ao, .int au, .ref a1, .ref a2, .ref a3, .ref a4, .ref a5, .ref a6, .ref a7, .ref a8, .ref a9, .ref a10])), (a1, .inl (T 0, 10, .inl af1)), (a2, .inl (T 0, 10, .inl af2))] ∧ (∀ i, i < 7 → (g2 i = -1 ∨ bd (g2 i) 7)))
set_option maxHeartbeats 4000000 in
set_option maxRecDepth 100000 in
theorem y_lay5 (l : Launch) (D : va_G) (T : Nat → ClassId) (y0 : Nat) (a0 : Nat) (tk : Int32) (sum : Int32) (ys : Int32) (y1 : Nat) (y2 : Nat) (yb : Nat → Int32) (yt : Nat → Int32) (an : Nat) (am : Int32) (al : Int32) (ao : Int32) (au : Int32) (a1 : Nat) (a2 : Nat) (a3 : Nat) (a4 : Nat) (a5 : Nat) (a6 : Nat) (a7 : Nat) (a8 : Nat) (a9 : Nat) (a10 : Nat) (af1 : Nat → Int32) (af2 : Nat → Int32) (h_n : an ≤ 7) (h_yt : ∀ i, i < 7 → (yt i = -1 ∨ bd (yt i) 7)) : Ct l yX0_layFrom cX0_layFrom 7 none 4 0 0 D T [.ref y0, .ref a0, .int (nI 5), .int tk, .int sum] [(y0, .inr (0, [.int ys, .ref y1, .ref y2])), (y1, .inl (T 0, 7, .inl yb)), (y2, .inl (T 0, 7, .inl yt)), (a0, .inr (5, [.int (nI an), .int am, .int al, .int ao, .int au, .ref a1, .ref a2, .ref a3, .ref a4, .ref a5, .ref a6, .ref a7, .ref a8, .ref a9, .ref a10])), (a1, .inl (T 0, 10, .inl af1)), (a2, .inl (T 0, 10, .inl af2))] (q_y_lay5 T y0 a0 tk sum ys y1 y2 yb yt an am al ao au a1 a2 a3 a4 a5 a6 a7 a8 a9 a10 af1 af2) := by
  refine Ct.of (cc := cX0_layFrom) (maxL := 7) (ret := none) (by decide) (Nat.le_of_ble_eq_true rfl) ?_
  intro p e s m args below meth c A ls hC hnm V hl
  obtain ⟨hx, hb, hr, hml, hown, hts, hlocks⟩ := id hC
  generalize hH : s.heap = H at V ⊢
  clear hH
  have hl : lv_has ls 7 [(0, .ref y0), (1, .ref a0), (2, .int (nI 5)), (3, .int tk), (4, .int sum)] := hl
  generalize hlo : ([] : List Loc) = locs at V ⊢
  clear hlo
  refine lv_aload_n hx hb dX0_layFrom_0 rfl (lv_at hl 0 rfl) ?_
  refine g_get hC V (ci := 0) uwX0 0 rfl rfl 0 (by decide) w_211 rfl rfl dX0_layFrom_1 ?_
  refine lv_iconst (v := (-1)) hx hb dX0_layFrom_4 (by decide +kernel) ?_
  refine lv_icmp_eq (tgt := 18) hx hb dX0_layFrom_5 (by decide) (fun c_1 => ?_) (fun c_1 => ?_)
  · skip
    refine lv_iload_n hx hb dX0_layFrom_18 rfl (lv_at hl 2 rfl) ?_
    refine lv_aload_n hx hb dX0_layFrom_19 rfl (lv_at hl 1 rfl) ?_
    refine g_get hC V (ci := 5) uwX5 3 rfl rfl 0 (by decide) w_35 rfl rfl dX0_layFrom_20 ?_
    refine lv_icmp_ge (tgt := 32) hx hb dX0_layFrom_23 (by decide) (fun c_2 => ?_) (fun c_2 => ?_)
    · skip
      have c_2 := b_le (by omega) (by omega) c_2
      refine lv_aload_n hx hb dX0_layFrom_32 rfl (lv_at hl 0 rfl) ?_
      refine lv_iload hx hb dX0_layFrom_33 (lv_at hl 4 rfl) ?_
      refine g_put hC V (ci := 0) uwX0 tyX0 tyX0_ok nmX0 0 rfl rfl 0 (by decide) w_211 rfl rfl rfl rfl (Nat.le_of_ble_eq_true rfl) (ws' := [(y0, .inr (0, [.int sum, .ref y1, .ref y2])), (y1, .inl (T 0, 7, .inl yb)), (y2, .inl (T 0, 7, .inl yt)), (a0, .inr (5, [.int (nI an), .int am, .int al, .int ao, .int au, .ref a1, .ref a2, .ref a3, .ref a4, .ref a5, .ref a6, .ref a7, .ref a8, .ref a9, .ref a10])), (a1, .inl (T 0, 10, .inl af1)), (a2, .inl (T 0, 10, .inl af2))]) rfl dX0_layFrom_35 (fun H locs V => ?_)
      refine lv_aload_n hx hb dX0_layFrom_38 rfl (lv_at hl 0 rfl) ?_
      refine g_get hC V (ci := 0) uwX0 0 rfl rfl 2 (by decide) w_215 rfl rfl dX0_layFrom_39 ?_
      refine lv_iconst (v := (nI 0)) hx hb dX0_layFrom_42 (by decide +kernel) ?_
      refine lv_aload_n hx hb dX0_layFrom_43 rfl (lv_at hl 0 rfl) ?_
      refine g_get hC V (ci := 0) uwX0 0 rfl rfl 1 (by decide) w_213 rfl rfl dX0_layFrom_44 ?_
      refine lv_iconst (v := (nI 0)) hx hb dX0_layFrom_47 (by decide +kernel) ?_
      refine lv_bipush (v := (nI 7)) hx hb dX0_layFrom_48 (by decide +kernel) ?_
      refine g_copyi hC V hl.1 w_808 w_672 w_671 w_17 2 1 rfl rfl (by decide +kernel) (by decide +kernel) (Nat.le_of_ble_eq_true rfl) (Nat.le_of_ble_eq_true rfl) (Nat.le_of_ble_eq_true rfl) dX0_layFrom_50 (fun g_3 H locs V => ?_)
      have V : gW D T A s [(y0, .inr (0, [.int sum, .ref y1, .ref y2])), (y1, .inl (T 0, 7, .inl g_3)), (y2, .inl (T 0, 7, .inl yt)), (a0, .inr (5, [.int (nI an), .int am, .int al, .int ao, .int au, .ref a1, .ref a2, .ref a3, .ref a4, .ref a5, .ref a6, .ref a7, .ref a8, .ref a9, .ref a10])), (a1, .inl (T 0, 10, .inl af1)), (a2, .inl (T 0, 10, .inl af2))] H locs := V
      exact g_vret (Qr := (q_y_lay5 T y0 a0 tk sum ys y1 y2 yb yt an am al ao au a1 a2 a3 a4 a5 a6 a7 a8 a9 a10 af1 af2)) hC V ⟨(Nat.le_of_ble_eq_true rfl), (Nat.le_of_ble_eq_true rfl)⟩ ⟨sum, g_3, yt, rfl, rfl, (by first | assumption | omega)⟩ dX0_layFrom_53
    · skip
      have c_2 := b_nle (by omega) (by omega) c_2
      refine lv_iload_n hx hb dX0_layFrom_26 rfl (lv_at hl 2 rfl) ?_
      refine lv_bipush (v := (nI 7)) hx hb dX0_layFrom_27 (by decide +kernel) ?_
      refine lv_icmp_lt (tgt := 54) hx hb dX0_layFrom_29 (by decide) (fun _ => ?_) (fun c => absurd (show (nI 5) < (nI 7) by first | rfl | decide +kernel) c)
      refine lv_iconst (v := (nI 0)) hx hb dX0_layFrom_54 (by decide +kernel) ?_
      refine lv_istore (lv' := [(5, .int (nI 0)), (0, .ref y0), (1, .ref a0), (2, .int (nI 5)), (3, .int tk), (4, .int sum)]) hx hb dX0_layFrom_55 hl (by decide) rfl (fun ls hl => ?_)
      have L_4 : ∀ (fu : Nat) (k57 : Nat) (bv : Int32) (ga : Nat → Int32) (gb : Nat → Int32), k57 ≤ an → (∀ i, i < 7 → (gb i = -1 ∨ bd (gb i) 7)) → an - k57 < fu → ∀ (H : Heap) (locs : List Loc) (ls : Array Slot), gW D T A s [(y0, .inr (0, [.int bv, .ref y1, .ref y2])), (y1, .inl (T 0, 7, .inl ga)), (y2, .inl (T 0, 7, .inl gb)), (a0, .inr (5, [.int (nI an), .int am, .int al, .int ao, .int au, .ref a1, .ref a2, .ref a3, .ref a4, .ref a5, .ref a6, .ref a7, .ref a8, .ref a9, .ref a10])), (a1, .inl (T 0, 10, .inl af1)), (a2, .inl (T 0, 10, .inl af2))] H locs → lv_has ls 7 [(5, .int (nI k57)), (0, .ref y0), (1, .ref a0), (2, .int (nI 5)), (3, .int tk), (4, .int sum)] → W p l e (rmD 4 0 0) s m args below meth c H locs 0 0 (MQ below (gQ D A (q_y_lay5 T y0 a0 tk sum ys y1 y2 yb yt an am al ao au a1 a2 a3 a4 a5 a6 a7 a8 a9 a10 af1 af2)) args s 0 0 A) (F0 m 57 ls []) := by
        intro fu_57
        induction fu_57 with
        | zero => intro k57 bv ga gb hk57 hgb hmu; exact absurd hmu (Nat.not_lt_zero _)
        | succ fu_57 ih_57 =>
          intro k57 bv ga gb hk57 hgb hmu_57 H locs ls V hl
          refine lv_iload hx hb dX0_layFrom_57 (lv_at hl 0 rfl) ?_
          refine lv_aload_n hx hb dX0_layFrom_59 rfl (lv_at hl 2 rfl) ?_
          refine g_get hC V (ci := 5) uwX5 3 rfl rfl 0 (by decide) w_35 rfl rfl dX0_layFrom_60 ?_
          refine lv_icmp_ge (tgt := 145) hx hb dX0_layFrom_63 (by decide) (fun c_5 => ?_) (fun c_5 => ?_)
          · skip
            have c_5 := b_le (by omega) (by omega) c_5
            exact g_vret (Qr := (q_y_lay5 T y0 a0 tk sum ys y1 y2 yb yt an am al ao au a1 a2 a3 a4 a5 a6 a7 a8 a9 a10 af1 af2)) hC V ⟨(Nat.le_of_ble_eq_true rfl), (Nat.le_of_ble_eq_true rfl)⟩ ⟨bv, ga, gb, rfl, rfl, (by first | assumption | omega)⟩ dX0_layFrom_145
          · skip
            have c_5 := b_nle (by omega) (by omega) c_5
            refine lv_iload_n hx hb dX0_layFrom_66 rfl (lv_at hl 4 rfl) ?_
            refine lv_iload hx hb dX0_layFrom_67 (lv_at hl 0 rfl) ?_
            refine g_callSNU (nA := 2) (host := RX7) hC V hl.1 (c_isIn l D T tk (nI k57)) w_472 (List.mem_of_getElem? (i := 7) rfl) w_2 w_471 (by decide +kernel) rfl ⟨(Nat.le_of_ble_eq_true rfl), (Nat.le_of_ble_eq_true rfl)⟩ [] rfl rfl (Nat.le_of_ble_eq_true rfl) dX0_layFrom_69 ⟨(Nat.le_of_ble_eq_true rfl), (Nat.le_of_ble_eq_true rfl)⟩ rfl (fun r w1 H locs hQ V => ?_)
            rcases hQ with ⟨rfl, rfl⟩ | ⟨rfl, rfl⟩
            · have V : gW D T A s [(y0, .inr (0, [.int bv, .ref y1, .ref y2])), (y1, .inl (T 0, 7, .inl ga)), (y2, .inl (T 0, 7, .inl gb)), (a0, .inr (5, [.int (nI an), .int am, .int al, .int ao, .int au, .ref a1, .ref a2, .ref a3, .ref a4, .ref a5, .ref a6, .ref a7, .ref a8, .ref a9, .ref a10])), (a1, .inl (T 0, 10, .inl af1)), (a2, .inl (T 0, 10, .inl af2))] H locs := V _ [] rfl rfl rfl (by decide +kernel) rfl
              show W p l e _ s m args below meth c H locs _ _ _ (F0 m 72 ls [.int (nI 1)])
              refine lv_if_ne (tgt := 139) hx hb dX0_layFrom_72 (by decide) (fun _ => ?_) (fun c => absurd (show (nI 1) = 0 from c) (by decide +kernel))
              refine lv_iinc (v := (nI (k57 + 1))) (lv' := [(5, .int (nI (k57 + 1))), (0, .ref y0), (1, .ref a0), (2, .int (nI 5)), (3, .int tk), (4, .int sum)]) hx hb dX0_layFrom_139 hl (k := 0) rfl (nI_1 _) (by decide) rfl (fun ls hl => ?_)
              refine lv_goto (tgt := 57) hx hb dX0_layFrom_142 (by decide) ?_
              exact ih_57 (k57 + 1) bv ga gb (by omega) (by assumption) (by omega) _ _ _ V (lv_sub hl [0, 1, 2, 3, 4, 5] rfl)
            · have V : gW D T A s [(y0, .inr (0, [.int bv, .ref y1, .ref y2])), (y1, .inl (T 0, 7, .inl ga)), (y2, .inl (T 0, 7, .inl gb)), (a0, .inr (5, [.int (nI an), .int am, .int al, .int ao, .int au, .ref a1, .ref a2, .ref a3, .ref a4, .ref a5, .ref a6, .ref a7, .ref a8, .ref a9, .ref a10])), (a1, .inl (T 0, 10, .inl af1)), (a2, .inl (T 0, 10, .inl af2))] H locs := V _ [] rfl rfl rfl (by decide +kernel) rfl
              show W p l e _ s m args below meth c H locs _ _ _ (F0 m 72 ls [.int (nI 0)])
              refine lv_if_ne (tgt := 139) hx hb dX0_layFrom_72 (by decide) (fun c => absurd (show (nI 0) = 0 by decide +kernel) c) (fun _ => ?_)
              refine lv_aload_n hx hb dX0_layFrom_75 rfl (lv_at hl 1 rfl) ?_
              refine lv_aload_n hx hb dX0_layFrom_76 rfl (lv_at hl 2 rfl) ?_
              refine lv_iload_n hx hb dX0_layFrom_77 rfl (lv_at hl 3 rfl) ?_
              refine lv_iload hx hb dX0_layFrom_78 (lv_at hl 0 rfl) ?_
              refine g_callVU (nA := 3) hC V hl.1 (y_closes l D T y0 a0 5 k57 bv y1 y2 gb an am al ao au a1 a2 a3 a4 a5 a6 a7 a8 a9 a10 (by first | assumption | omega) hgb (by first | assumption | omega) (by first | assumption | omega)) w_810 w_812 w_s32 w_7 w_813 (by decide +kernel) rfl ⟨(Nat.le_of_ble_eq_true rfl), (Nat.le_of_ble_eq_true rfl)⟩ 0 (ci := 0) rfl rfl [0, 2, 3] rfl rfl (Nat.le_of_ble_eq_true rfl) dX0_layFrom_80 ⟨(Nat.le_of_ble_eq_true rfl), (Nat.le_of_ble_eq_true rfl)⟩ rfl (fun r w1 H locs hQ V => ?_)
              rcases hQ with ⟨rfl, rfl⟩ | ⟨rfl, rfl⟩
              · have V : gW D T A s [(y0, .inr (0, [.int bv, .ref y1, .ref y2])), (y1, .inl (T 0, 7, .inl ga)), (y2, .inl (T 0, 7, .inl gb)), (a0, .inr (5, [.int (nI an), .int am, .int al, .int ao, .int au, .ref a1, .ref a2, .ref a3, .ref a4, .ref a5, .ref a6, .ref a7, .ref a8, .ref a9, .ref a10])), (a1, .inl (T 0, 10, .inl af1)), (a2, .inl (T 0, 10, .inl af2))] H locs := V _ [0, 1, 0] rfl rfl rfl (by decide +kernel) rfl
                show W p l e _ s m args below meth c H locs _ _ _ (F0 m 83 ls [.int (nI 1)])
                refine lv_if_ne (tgt := 139) hx hb dX0_layFrom_83 (by decide) (fun _ => ?_) (fun c => absurd (show (nI 1) = 0 from c) (by decide +kernel))
                refine lv_iinc (v := (nI (k57 + 1))) (lv' := [(5, .int (nI (k57 + 1))), (0, .ref y0), (1, .ref a0), (2, .int (nI 5)), (3, .int tk), (4, .int sum)]) hx hb dX0_layFrom_139 hl (k := 0) rfl (nI_1 _) (by decide) rfl (fun ls hl => ?_)
                refine lv_goto (tgt := 57) hx hb dX0_layFrom_142 (by decide) ?_
                exact ih_57 (k57 + 1) bv ga gb (by omega) (by assumption) (by omega) _ _ _ V (lv_sub hl [0, 1, 2, 3, 4, 5] rfl)
              · have V : gW D T A s [(y0, .inr (0, [.int bv, .ref y1, .ref y2])), (y1, .inl (T 0, 7, .inl ga)), (y2, .inl (T 0, 7, .inl gb)), (a0, .inr (5, [.int (nI an), .int am, .int al, .int ao, .int au, .ref a1, .ref a2, .ref a3, .ref a4, .ref a5, .ref a6, .ref a7, .ref a8, .ref a9, .ref a10])), (a1, .inl (T 0, 10, .inl af1)), (a2, .inl (T 0, 10, .inl af2))] H locs := V _ [0, 1, 0] rfl rfl rfl (by decide +kernel) rfl
                show W p l e _ s m args below meth c H locs _ _ _ (F0 m 83 ls [.int (nI 0)])
                refine lv_if_ne (tgt := 139) hx hb dX0_layFrom_83 (by decide) (fun c => absurd (show (nI 0) = 0 by decide +kernel) c) (fun _ => ?_)
                refine lv_aload_n hx hb dX0_layFrom_86 rfl (lv_at hl 1 rfl) ?_
                refine g_get hC V (ci := 0) uwX0 0 rfl rfl 2 (by decide) w_215 rfl rfl dX0_layFrom_87 ?_
                refine lv_iload_n hx hb dX0_layFrom_90 rfl (lv_at hl 3 rfl) ?_
                refine lv_iload hx hb dX0_layFrom_91 (lv_at hl 0 rfl) ?_
                refine g_iast hC V 2 rfl (vp_in_nI (by decide) (by decide)) (f' := (upd gb 5 (nI k57))) (by rw [nI_clamp (by decide)]) (ws' := [(y0, .inr (0, [.int bv, .ref y1, .ref y2])), (y1, .inl (T 0, 7, .inl ga)), (y2, .inl (T 0, 7, .inl (upd gb 5 (nI k57)))), (a0, .inr (5, [.int (nI an), .int am, .int al, .int ao, .int au, .ref a1, .ref a2, .ref a3, .ref a4, .ref a5, .ref a6, .ref a7, .ref a8, .ref a9, .ref a10])), (a1, .inl (T 0, 10, .inl af1)), (a2, .inl (T 0, 10, .inl af2))]) rfl dX0_layFrom_93 (fun H locs V => ?_)
                refine lv_aload_n hx hb dX0_layFrom_94 rfl (lv_at hl 2 rfl) ?_
                refine g_get hC V (ci := 5) uwX5 3 rfl rfl 5 (by decide) w_52 rfl rfl dX0_layFrom_95 ?_
                refine lv_iload_n hx hb dX0_layFrom_98 rfl (lv_at hl 3 rfl) ?_
                refine g_iald hC V 4 rfl (vp_in_nI (by decide) (by decide)) (v := (af1 5)) (congrArg _ (nI_clamp (by decide))) dX0_layFrom_99 ?_
                refine lv_aload_n hx hb dX0_layFrom_100 rfl (lv_at hl 2 rfl) ?_
                refine g_get hC V (ci := 5) uwX5 3 rfl rfl 6 (by decide) w_58 rfl rfl dX0_layFrom_101 ?_
                refine lv_iload hx hb dX0_layFrom_104 (lv_at hl 0 rfl) ?_
                refine g_iald hC V 5 rfl (vp_in_nI (by omega) (by omega)) (v := (af2 k57)) (congrArg _ (nI_clamp (by omega))) dX0_layFrom_106 ?_
                refine lv_isub hx hb dX0_layFrom_107 ?_
                refine va_mabs hx hb (hml.trans hl.1.symm) hown (hts _ w_814) (hts _ w_815) (hts _ w_10) (hts _ w_816) (Nat.le_of_ble_eq_true rfl) (Nat.le_of_ble_eq_true rfl) (Nat.le_of_ble_eq_true rfl) (Nat.le_of_ble_eq_true rfl) dX0_layFrom_108 ?_
                refine lv_topi (fun x_6 ex_6 => ?_)
                refine lv_istore (lv' := [(6, .int x_6), (5, .int (nI k57)), (0, .ref y0), (1, .ref a0), (2, .int (nI 5)), (3, .int tk), (4, .int sum)]) hx hb dX0_layFrom_111 hl (by decide) rfl (fun ls hl => ?_)
                refine lv_aload_n hx hb dX0_layFrom_113 rfl (lv_at hl 2 rfl) ?_
                refine lv_aload_n hx hb dX0_layFrom_114 rfl (lv_at hl 3 rfl) ?_
                refine lv_iload_n hx hb dX0_layFrom_115 rfl (lv_at hl 4 rfl) ?_
                refine lv_iconst (v := (nI 1)) hx hb dX0_layFrom_116 (by decide +kernel) ?_
                refine lv_iadd hx hb dX0_layFrom_117 ?_
                refine g_vi (y := (nI 6)) (by decide +kernel) ?_
                refine lv_iload_n hx hb dX0_layFrom_118 rfl (lv_at hl 5 rfl) ?_
                refine lv_iconst (v := (nI 1)) hx hb dX0_layFrom_119 (by decide +kernel) ?_
                refine lv_iload hx hb dX0_layFrom_120 (lv_at hl 1 rfl) ?_
                refine lv_ishl hx hb dX0_layFrom_122 ?_
                refine lv_ior hx hb dX0_layFrom_123 ?_
                refine lv_iload hx hb dX0_layFrom_124 (lv_at hl 6 rfl) ?_
                refine lv_iload hx hb dX0_layFrom_126 (lv_at hl 0 rfl) ?_
                refine lv_iadd hx hb dX0_layFrom_128 ?_
                refine g_callV (wr := []) (nA := 4) hC V hl.1 (y_lay6 l D T y0 a0 (tk ||| ((nI 1) <<< ((nI k57) &&& 31))) (sum + x_6) bv y1 y2 ga (upd gb 5 (nI k57)) an am al ao au a1 a2 a3 a4 a5 a6 a7 a8 a9 a10 af1 af2 (by first | assumption | omega) (up_all (p := fun x => x = -1 ∨ bd x 7) hgb (fun _ => Or.inr (bd_nI (by omega))))) w_804 w_806 w_s31 w_7 w_807 (by decide +kernel) rfl ⟨(Nat.le_of_ble_eq_true rfl), (Nat.le_of_ble_eq_true rfl)⟩ 0 (ci := 0) rfl rfl [0, 1, 2, 3, 4, 5] [] rfl rfl rfl rfl (by decide) (Nat.le_of_ble_eq_true rfl) dX0_layFrom_129 ⟨(Nat.le_of_ble_eq_true rfl), (Nat.le_of_ble_eq_true rfl)⟩ rfl (fun r w1 H locs hQ V => ?_)
                obtain ⟨bs_7, g1_8, g2_9, rfl, rfl, f_10⟩ := hQ
                have V : gW D T A s [(y0, .inr (0, [.int bs_7, .ref y1, .ref y2])), (y1, .inl (T 0, 7, .inl g1_8)), (y2, .inl (T 0, 7, .inl g2_9)), (a0, .inr (5, [.int (nI an), .int am, .int al, .int ao, .int au, .ref a1, .ref a2, .ref a3, .ref a4, .ref a5, .ref a6, .ref a7, .ref a8, .ref a9, .ref a10])), (a1, .inl (T 0, 10, .inl af1)), (a2, .inl (T 0, 10, .inl af2))] H locs := V
                show W p l e _ s m args below meth c H locs _ _ _ (F0 m 132 ls [])
                have hq := up_all (p := fun x => x = -1 ∨ bd x 7) (k := 5) (x := -1) f_10 (fun _ => Or.inl rfl)
                refine lv_aload_n hx hb dX0_layFrom_132 rfl (lv_at hl 2 rfl) ?_
                refine g_get hC V (ci := 0) uwX0 0 rfl rfl 2 (by decide) w_215 rfl rfl dX0_layFrom_133 ?_
                refine lv_iload_n hx hb dX0_layFrom_136 rfl (lv_at hl 4 rfl) ?_
                refine lv_iconst (v := (-1)) hx hb dX0_layFrom_137 (by decide +kernel) ?_
                refine g_iast hC V 2 rfl (vp_in_nI (by decide) (by decide)) (f' := (upd g2_9 5 (-1))) (by rw [nI_clamp (by decide)]) (ws' := [(y0, .inr (0, [.int bs_7, .ref y1, .ref y2])), (y1, .inl (T 0, 7, .inl g1_8)), (y2, .inl (T 0, 7, .inl (upd g2_9 5 (-1)))), (a0, .inr (5, [.int (nI an), .int am, .int al, .int ao, .int au, .ref a1, .ref a2, .ref a3, .ref a4, .ref a5, .ref a6, .ref a7, .ref a8, .ref a9, .ref a10])), (a1, .inl (T 0, 10, .inl af1)), (a2, .inl (T 0, 10, .inl af2))]) rfl dX0_layFrom_138 (fun H locs V => ?_)
                refine lv_iinc (v := (nI (k57 + 1))) (lv' := [(5, .int (nI (k57 + 1))), (6, .int x_6), (0, .ref y0), (1, .ref a0), (2, .int (nI 5)), (3, .int tk), (4, .int sum)]) hx hb dX0_layFrom_139 hl (k := 1) rfl (nI_1 _) (by decide) rfl (fun ls hl => ?_)
                refine lv_goto (tgt := 57) hx hb dX0_layFrom_142 (by decide) ?_
                exact ih_57 (k57 + 1) bs_7 g1_8 (upd g2_9 5 (-1)) (by omega) (by assumption) (by omega) _ _ _ V (lv_sub hl [0, 2, 3, 4, 5, 6] rfl)
      exact L_4 _ 0 ys yb yt (by omega) h_yt (Nat.lt_succ_self _) _ _ _ V (lv_sub hl [0, 1, 2, 3, 4, 5] rfl)
  · skip
    refine lv_iload hx hb dX0_layFrom_8 (lv_at hl 4 rfl) ?_
    refine lv_aload_n hx hb dX0_layFrom_10 rfl (lv_at hl 0 rfl) ?_
    refine g_get hC V (ci := 0) uwX0 0 rfl rfl 0 (by decide) w_211 rfl rfl dX0_layFrom_11 ?_
    refine lv_icmp_lt (tgt := 18) hx hb dX0_layFrom_14 (by decide) (fun c_11 => ?_) (fun c_11 => ?_)
    · skip
      refine lv_iload_n hx hb dX0_layFrom_18 rfl (lv_at hl 2 rfl) ?_
      refine lv_aload_n hx hb dX0_layFrom_19 rfl (lv_at hl 1 rfl) ?_
      refine g_get hC V (ci := 5) uwX5 3 rfl rfl 0 (by decide) w_35 rfl rfl dX0_layFrom_20 ?_
      refine lv_icmp_ge (tgt := 32) hx hb dX0_layFrom_23 (by decide) (fun c_12 => ?_) (fun c_12 => ?_)
      · skip
        have c_12 := b_le (by omega) (by omega) c_12
        refine lv_aload_n hx hb dX0_layFrom_32 rfl (lv_at hl 0 rfl) ?_
        refine lv_iload hx hb dX0_layFrom_33 (lv_at hl 4 rfl) ?_
        refine g_put hC V (ci := 0) uwX0 tyX0 tyX0_ok nmX0 0 rfl rfl 0 (by decide) w_211 rfl rfl rfl rfl (Nat.le_of_ble_eq_true rfl) (ws' := [(y0, .inr (0, [.int sum, .ref y1, .ref y2])), (y1, .inl (T 0, 7, .inl yb)), (y2, .inl (T 0, 7, .inl yt)), (a0, .inr (5, [.int (nI an), .int am, .int al, .int ao, .int au, .ref a1, .ref a2, .ref a3, .ref a4, .ref a5, .ref a6, .ref a7, .ref a8, .ref a9, .ref a10])), (a1, .inl (T 0, 10, .inl af1)), (a2, .inl (T 0, 10, .inl af2))]) rfl dX0_layFrom_35 (fun H locs V => ?_)
        refine lv_aload_n hx hb dX0_layFrom_38 rfl (lv_at hl 0 rfl) ?_
        refine g_get hC V (ci := 0) uwX0 0 rfl rfl 2 (by decide) w_215 rfl rfl dX0_layFrom_39 ?_
        refine lv_iconst (v := (nI 0)) hx hb dX0_layFrom_42 (by decide +kernel) ?_
        refine lv_aload_n hx hb dX0_layFrom_43 rfl (lv_at hl 0 rfl) ?_
        refine g_get hC V (ci := 0) uwX0 0 rfl rfl 1 (by decide) w_213 rfl rfl dX0_layFrom_44 ?_
        refine lv_iconst (v := (nI 0)) hx hb dX0_layFrom_47 (by decide +kernel) ?_
        refine lv_bipush (v := (nI 7)) hx hb dX0_layFrom_48 (by decide +kernel) ?_
        refine g_copyi hC V hl.1 w_808 w_672 w_671 w_17 2 1 rfl rfl (by decide +kernel) (by decide +kernel) (Nat.le_of_ble_eq_true rfl) (Nat.le_of_ble_eq_true rfl) (Nat.le_of_ble_eq_true rfl) dX0_layFrom_50 (fun g_13 H locs V => ?_)
        have V : gW D T A s [(y0, .inr (0, [.int sum, .ref y1, .ref y2])), (y1, .inl (T 0, 7, .inl g_13)), (y2, .inl (T 0, 7, .inl yt)), (a0, .inr (5, [.int (nI an), .int am, .int al, .int ao, .int au, .ref a1, .ref a2, .ref a3, .ref a4, .ref a5, .ref a6, .ref a7, .ref a8, .ref a9, .ref a10])), (a1, .inl (T 0, 10, .inl af1)), (a2, .inl (T 0, 10, .inl af2))] H locs := V
        exact g_vret (Qr := (q_y_lay5 T y0 a0 tk sum ys y1 y2 yb yt an am al ao au a1 a2 a3 a4 a5 a6 a7 a8 a9 a10 af1 af2)) hC V ⟨(Nat.le_of_ble_eq_true rfl), (Nat.le_of_ble_eq_true rfl)⟩ ⟨sum, g_13, yt, rfl, rfl, (by first | assumption | omega)⟩ dX0_layFrom_53
      · skip
        have c_12 := b_nle (by omega) (by omega) c_12
        refine lv_iload_n hx hb dX0_layFrom_26 rfl (lv_at hl 2 rfl) ?_
        refine lv_bipush (v := (nI 7)) hx hb dX0_layFrom_27 (by decide +kernel) ?_
        refine lv_icmp_lt (tgt := 54) hx hb dX0_layFrom_29 (by decide) (fun _ => ?_) (fun c => absurd (show (nI 5) < (nI 7) by first | rfl | decide +kernel) c)
        refine lv_iconst (v := (nI 0)) hx hb dX0_layFrom_54 (by decide +kernel) ?_
        refine lv_istore (lv' := [(5, .int (nI 0)), (0, .ref y0), (1, .ref a0), (2, .int (nI 5)), (3, .int tk), (4, .int sum)]) hx hb dX0_layFrom_55 hl (by decide) rfl (fun ls hl => ?_)
        have L_14 : ∀ (fu : Nat) (k57 : Nat) (bv : Int32) (ga : Nat → Int32) (gb : Nat → Int32), k57 ≤ an → (∀ i, i < 7 → (gb i = -1 ∨ bd (gb i) 7)) → an - k57 < fu → ∀ (H : Heap) (locs : List Loc) (ls : Array Slot), gW D T A s [(y0, .inr (0, [.int bv, .ref y1, .ref y2])), (y1, .inl (T 0, 7, .inl ga)), (y2, .inl (T 0, 7, .inl gb)), (a0, .inr (5, [.int (nI an), .int am, .int al, .int ao, .int au, .ref a1, .ref a2, .ref a3, .ref a4, .ref a5, .ref a6, .ref a7, .ref a8, .ref a9, .ref a10])), (a1, .inl (T 0, 10, .inl af1)), (a2, .inl (T 0, 10, .inl af2))] H locs → lv_has ls 7 [(5, .int (nI k57)), (0, .ref y0), (1, .ref a0), (2, .int (nI 5)), (3, .int tk), (4, .int sum)] → W p l e (rmD 4 0 0) s m args below meth c H locs 0 0 (MQ below (gQ D A (q_y_lay5 T y0 a0 tk sum ys y1 y2 yb yt an am al ao au a1 a2 a3 a4 a5 a6 a7 a8 a9 a10 af1 af2)) args s 0 0 A) (F0 m 57 ls []) := by
          intro fu_57
          induction fu_57 with
          | zero => intro k57 bv ga gb hk57 hgb hmu; exact absurd hmu (Nat.not_lt_zero _)
          | succ fu_57 ih_57 =>
            intro k57 bv ga gb hk57 hgb hmu_57 H locs ls V hl
            refine lv_iload hx hb dX0_layFrom_57 (lv_at hl 0 rfl) ?_
            refine lv_aload_n hx hb dX0_layFrom_59 rfl (lv_at hl 2 rfl) ?_
            refine g_get hC V (ci := 5) uwX5 3 rfl rfl 0 (by decide) w_35 rfl rfl dX0_layFrom_60 ?_
            refine lv_icmp_ge (tgt := 145) hx hb dX0_layFrom_63 (by decide) (fun c_15 => ?_) (fun c_15 => ?_)
            · skip
              have c_15 := b_le (by omega) (by omega) c_15
              exact g_vret (Qr := (q_y_lay5 T y0 a0 tk sum ys y1 y2 yb yt an am al ao au a1 a2 a3 a4 a5 a6 a7 a8 a9 a10 af1 af2)) hC V ⟨(Nat.le_of_ble_eq_true rfl), (Nat.le_of_ble_eq_true rfl)⟩ ⟨bv, ga, gb, rfl, rfl, (by first | assumption | omega)⟩ dX0_layFrom_145
            · skip
              have c_15 := b_nle (by omega) (by omega) c_15
              refine lv_iload_n hx hb dX0_layFrom_66 rfl (lv_at hl 4 rfl) ?_
              refine lv_iload hx hb dX0_layFrom_67 (lv_at hl 0 rfl) ?_
              refine g_callSNU (nA := 2) (host := RX7) hC V hl.1 (c_isIn l D T tk (nI k57)) w_472 (List.mem_of_getElem? (i := 7) rfl) w_2 w_471 (by decide +kernel) rfl ⟨(Nat.le_of_ble_eq_true rfl), (Nat.le_of_ble_eq_true rfl)⟩ [] rfl rfl (Nat.le_of_ble_eq_true rfl) dX0_layFrom_69 ⟨(Nat.le_of_ble_eq_true rfl), (Nat.le_of_ble_eq_true rfl)⟩ rfl (fun r w1 H locs hQ V => ?_)
              rcases hQ with ⟨rfl, rfl⟩ | ⟨rfl, rfl⟩
              · have V : gW D T A s [(y0, .inr (0, [.int bv, .ref y1, .ref y2])), (y1, .inl (T 0, 7, .inl ga)), (y2, .inl (T 0, 7, .inl gb)), (a0, .inr (5, [.int (nI an), .int am, .int al, .int ao, .int au, .ref a1, .ref a2, .ref a3, .ref a4, .ref a5, .ref a6, .ref a7, .ref a8, .ref a9, .ref a10])), (a1, .inl (T 0, 10, .inl af1)), (a2, .inl (T 0, 10, .inl af2))] H locs := V _ [] rfl rfl rfl (by decide +kernel) rfl
                show W p l e _ s m args below meth c H locs _ _ _ (F0 m 72 ls [.int (nI 1)])
                refine lv_if_ne (tgt := 139) hx hb dX0_layFrom_72 (by decide) (fun _ => ?_) (fun c => absurd (show (nI 1) = 0 from c) (by decide +kernel))
                refine lv_iinc (v := (nI (k57 + 1))) (lv' := [(5, .int (nI (k57 + 1))), (0, .ref y0), (1, .ref a0), (2, .int (nI 5)), (3, .int tk), (4, .int sum)]) hx hb dX0_layFrom_139 hl (k := 0) rfl (nI_1 _) (by decide) rfl (fun ls hl => ?_)
                refine lv_goto (tgt := 57) hx hb dX0_layFrom_142 (by decide) ?_
                exact ih_57 (k57 + 1) bv ga gb (by omega) (by assumption) (by omega) _ _ _ V (lv_sub hl [0, 1, 2, 3, 4, 5] rfl)
              · have V : gW D T A s [(y0, .inr (0, [.int bv, .ref y1, .ref y2])), (y1, .inl (T 0, 7, .inl ga)), (y2, .inl (T 0, 7, .inl gb)), (a0, .inr (5, [.int (nI an), .int am, .int al, .int ao, .int au, .ref a1, .ref a2, .ref a3, .ref a4, .ref a5, .ref a6, .ref a7, .ref a8, .ref a9, .ref a10])), (a1, .inl (T 0, 10, .inl af1)), (a2, .inl (T 0, 10, .inl af2))] H locs := V _ [] rfl rfl rfl (by decide +kernel) rfl
                show W p l e _ s m args below meth c H locs _ _ _ (F0 m 72 ls [.int (nI 0)])
                refine lv_if_ne (tgt := 139) hx hb dX0_layFrom_72 (by decide) (fun c => absurd (show (nI 0) = 0 by decide +kernel) c) (fun _ => ?_)
                refine lv_aload_n hx hb dX0_layFrom_75 rfl (lv_at hl 1 rfl) ?_
                refine lv_aload_n hx hb dX0_layFrom_76 rfl (lv_at hl 2 rfl) ?_
                refine lv_iload_n hx hb dX0_layFrom_77 rfl (lv_at hl 3 rfl) ?_
                refine lv_iload hx hb dX0_layFrom_78 (lv_at hl 0 rfl) ?_
                refine g_callVU (nA := 3) hC V hl.1 (y_closes l D T y0 a0 5 k57 bv y1 y2 gb an am al ao au a1 a2 a3 a4 a5 a6 a7 a8 a9 a10 (by first | assumption | omega) hgb (by first | assumption | omega) (by first | assumption | omega)) w_810 w_812 w_s32 w_7 w_813 (by decide +kernel) rfl ⟨(Nat.le_of_ble_eq_true rfl), (Nat.le_of_ble_eq_true rfl)⟩ 0 (ci := 0) rfl rfl [0, 2, 3] rfl rfl (Nat.le_of_ble_eq_true rfl) dX0_layFrom_80 ⟨(Nat.le_of_ble_eq_true rfl), (Nat.le_of_ble_eq_true rfl)⟩ rfl (fun r w1 H locs hQ V => ?_)
                rcases hQ with ⟨rfl, rfl⟩ | ⟨rfl, rfl⟩
                · have V : gW D T A s [(y0, .inr (0, [.int bv, .ref y1, .ref y2])), (y1, .inl (T 0, 7, .inl ga)), (y2, .inl (T 0, 7, .inl gb)), (a0, .inr (5, [.int (nI an), .int am, .int al, .int ao, .int au, .ref a1, .ref a2, .ref a3, .ref a4, .ref a5, .ref a6, .ref a7, .ref a8, .ref a9, .ref a10])), (a1, .inl (T 0, 10, .inl af1)), (a2, .inl (T 0, 10, .inl af2))] H locs := V _ [0, 1, 0] rfl rfl rfl (by decide +kernel) rfl
                  show W p l e _ s m args below meth c H locs _ _ _ (F0 m 83 ls [.int (nI 1)])
                  refine lv_if_ne (tgt := 139) hx hb dX0_layFrom_83 (by decide) (fun _ => ?_) (fun c => absurd (show (nI 1) = 0 from c) (by decide +kernel))
                  refine lv_iinc (v := (nI (k57 + 1))) (lv' := [(5, .int (nI (k57 + 1))), (0, .ref y0), (1, .ref a0), (2, .int (nI 5)), (3, .int tk), (4, .int sum)]) hx hb dX0_layFrom_139 hl (k := 0) rfl (nI_1 _) (by decide) rfl (fun ls hl => ?_)
                  refine lv_goto (tgt := 57) hx hb dX0_layFrom_142 (by decide) ?_
                  exact ih_57 (k57 + 1) bv ga gb (by omega) (by assumption) (by omega) _ _ _ V (lv_sub hl [0, 1, 2, 3, 4, 5] rfl)
                · have V : gW D T A s [(y0, .inr (0, [.int bv, .ref y1, .ref y2])), (y1, .inl (T 0, 7, .inl ga)), (y2, .inl (T 0, 7, .inl gb)), (a0, .inr (5, [.int (nI an), .int am, .int al, .int ao, .int au, .ref a1, .ref a2, .ref a3, .ref a4, .ref a5, .ref a6, .ref a7, .ref a8, .ref a9, .ref a10])), (a1, .inl (T 0, 10, .inl af1)), (a2, .inl (T 0, 10, .inl af2))] H locs := V _ [0, 1, 0] rfl rfl rfl (by decide +kernel) rfl
                  show W p l e _ s m args below meth c H locs _ _ _ (F0 m 83 ls [.int (nI 0)])
                  refine lv_if_ne (tgt := 139) hx hb dX0_layFrom_83 (by decide) (fun c => absurd (show (nI 0) = 0 by decide +kernel) c) (fun _ => ?_)
                  refine lv_aload_n hx hb dX0_layFrom_86 rfl (lv_at hl 1 rfl) ?_
                  refine g_get hC V (ci := 0) uwX0 0 rfl rfl 2 (by decide) w_215 rfl rfl dX0_layFrom_87 ?_
                  refine lv_iload_n hx hb dX0_layFrom_90 rfl (lv_at hl 3 rfl) ?_
                  refine lv_iload hx hb dX0_layFrom_91 (lv_at hl 0 rfl) ?_
                  refine g_iast hC V 2 rfl (vp_in_nI (by decide) (by decide)) (f' := (upd gb 5 (nI k57))) (by rw [nI_clamp (by decide)]) (ws' := [(y0, .inr (0, [.int bv, .ref y1, .ref y2])), (y1, .inl (T 0, 7, .inl ga)), (y2, .inl (T 0, 7, .inl (upd gb 5 (nI k57)))), (a0, .inr (5, [.int (nI an), .int am, .int al, .int ao, .int au, .ref a1, .ref a2, .ref a3, .ref a4, .ref a5, .ref a6, .ref a7, .ref a8, .ref a9, .ref a10])), (a1, .inl (T 0, 10, .inl af1)), (a2, .inl (T 0, 10, .inl af2))]) rfl dX0_layFrom_93 (fun H locs V => ?_)
                  refine lv_aload_n hx hb dX0_layFrom_94 rfl (lv_at hl 2 rfl) ?_
                  refine g_get hC V (ci := 5) uwX5 3 rfl rfl 5 (by decide) w_52 rfl rfl dX0_layFrom_95 ?_
                  refine lv_iload_n hx hb dX0_layFrom_98 rfl (lv_at hl 3 rfl) ?_
                  refine g_iald hC V 4 rfl (vp_in_nI (by decide) (by decide)) (v := (af1 5)) (congrArg _ (nI_clamp (by decide))) dX0_layFrom_99 ?_
                  refine lv_aload_n hx hb dX0_layFrom_100 rfl (lv_at hl 2 rfl) ?_
                  refine g_get hC V (ci := 5) uwX5 3 rfl rfl 6 (by decide) w_58 rfl rfl dX0_layFrom_101 ?_
                  refine lv_iload hx hb dX0_layFrom_104 (lv_at hl 0 rfl) ?_
                  refine g_iald hC V 5 rfl (vp_in_nI (by omega) (by omega)) (v := (af2 k57)) (congrArg _ (nI_clamp (by omega))) dX0_layFrom_106 ?_
                  refine lv_isub hx hb dX0_layFrom_107 ?_
                  refine va_mabs hx hb (hml.trans hl.1.symm) hown (hts _ w_814) (hts _ w_815) (hts _ w_10) (hts _ w_816) (Nat.le_of_ble_eq_true rfl) (Nat.le_of_ble_eq_true rfl) (Nat.le_of_ble_eq_true rfl) (Nat.le_of_ble_eq_true rfl) dX0_layFrom_108 ?_
                  refine lv_topi (fun x_16 ex_16 => ?_)
                  refine lv_istore (lv' := [(6, .int x_16), (5, .int (nI k57)), (0, .ref y0), (1, .ref a0), (2, .int (nI 5)), (3, .int tk), (4, .int sum)]) hx hb dX0_layFrom_111 hl (by decide) rfl (fun ls hl => ?_)
                  refine lv_aload_n hx hb dX0_layFrom_113 rfl (lv_at hl 2 rfl) ?_
                  refine lv_aload_n hx hb dX0_layFrom_114 rfl (lv_at hl 3 rfl) ?_
                  refine lv_iload_n hx hb dX0_layFrom_115 rfl (lv_at hl 4 rfl) ?_
                  refine lv_iconst (v := (nI 1)) hx hb dX0_layFrom_116 (by decide +kernel) ?_
                  refine lv_iadd hx hb dX0_layFrom_117 ?_
                  refine g_vi (y := (nI 6)) (by decide +kernel) ?_
                  refine lv_iload_n hx hb dX0_layFrom_118 rfl (lv_at hl 5 rfl) ?_
                  refine lv_iconst (v := (nI 1)) hx hb dX0_layFrom_119 (by decide +kernel) ?_
                  refine lv_iload hx hb dX0_layFrom_120 (lv_at hl 1 rfl) ?_
                  refine lv_ishl hx hb dX0_layFrom_122 ?_
                  refine lv_ior hx hb dX0_layFrom_123 ?_
                  refine lv_iload hx hb dX0_layFrom_124 (lv_at hl 6 rfl) ?_
                  refine lv_iload hx hb dX0_layFrom_126 (lv_at hl 0 rfl) ?_
                  refine lv_iadd hx hb dX0_layFrom_128 ?_
                  refine g_callV (wr := []) (nA := 4) hC V hl.1 (y_lay6 l D T y0 a0 (tk ||| ((nI 1) <<< ((nI k57) &&& 31))) (sum + x_16) bv y1 y2 ga (upd gb 5 (nI k57)) an am al ao au a1 a2 a3 a4 a5 a6 a7 a8 a9 a10 af1 af2 (by first | assumption | omega) (up_all (p := fun x => x = -1 ∨ bd x 7) hgb (fun _ => Or.inr (bd_nI (by omega))))) w_804 w_806 w_s31 w_7 w_807 (by decide +kernel) rfl ⟨(Nat.le_of_ble_eq_true rfl), (Nat.le_of_ble_eq_true rfl)⟩ 0 (ci := 0) rfl rfl [0, 1, 2, 3, 4, 5] [] rfl rfl rfl rfl (by decide) (Nat.le_of_ble_eq_true rfl) dX0_layFrom_129 ⟨(Nat.le_of_ble_eq_true rfl), (Nat.le_of_ble_eq_true rfl)⟩ rfl (fun r w1 H locs hQ V => ?_)
                  obtain ⟨bs_17, g1_18, g2_19, rfl, rfl, f_20⟩ := hQ
                  have V : gW D T A s [(y0, .inr (0, [.int bs_17, .ref y1, .ref y2])), (y1, .inl (T 0, 7, .inl g1_18)), (y2, .inl (T 0, 7, .inl g2_19)), (a0, .inr (5, [.int (nI an), .int am, .int al, .int ao, .int au, .ref a1, .ref a2, .ref a3, .ref a4, .ref a5, .ref a6, .ref a7, .ref a8, .ref a9, .ref a10])), (a1, .inl (T 0, 10, .inl af1)), (a2, .inl (T 0, 10, .inl af2))] H locs := V
                  show W p l e _ s m args below meth c H locs _ _ _ (F0 m 132 ls [])
                  have hq := up_all (p := fun x => x = -1 ∨ bd x 7) (k := 5) (x := -1) f_20 (fun _ => Or.inl rfl)
                  refine lv_aload_n hx hb dX0_layFrom_132 rfl (lv_at hl 2 rfl) ?_
                  refine g_get hC V (ci := 0) uwX0 0 rfl rfl 2 (by decide) w_215 rfl rfl dX0_layFrom_133 ?_
                  refine lv_iload_n hx hb dX0_layFrom_136 rfl (lv_at hl 4 rfl) ?_
                  refine lv_iconst (v := (-1)) hx hb dX0_layFrom_137 (by decide +kernel) ?_
                  refine g_iast hC V 2 rfl (vp_in_nI (by decide) (by decide)) (f' := (upd g2_19 5 (-1))) (by rw [nI_clamp (by decide)]) (ws' := [(y0, .inr (0, [.int bs_17, .ref y1, .ref y2])), (y1, .inl (T 0, 7, .inl g1_18)), (y2, .inl (T 0, 7, .inl (upd g2_19 5 (-1)))), (a0, .inr (5, [.int (nI an), .int am, .int al, .int ao, .int au, .ref a1, .ref a2, .ref a3, .ref a4, .ref a5, .ref a6, .ref a7, .ref a8, .ref a9, .ref a10])), (a1, .inl (T 0, 10, .inl af1)), (a2, .inl (T 0, 10, .inl af2))]) rfl dX0_layFrom_138 (fun H locs V => ?_)
                  refine lv_iinc (v := (nI (k57 + 1))) (lv' := [(5, .int (nI (k57 + 1))), (6, .int x_16), (0, .ref y0), (1, .ref a0), (2, .int (nI 5)), (3, .int tk), (4, .int sum)]) hx hb dX0_layFrom_139 hl (k := 1) rfl (nI_1 _) (by decide) rfl (fun ls hl => ?_)
                  refine lv_goto (tgt := 57) hx hb dX0_layFrom_142 (by decide) ?_
                  exact ih_57 (k57 + 1) bs_17 g1_18 (upd g2_19 5 (-1)) (by omega) (by assumption) (by omega) _ _ _ V (lv_sub hl [0, 2, 3, 4, 5, 6] rfl)
        exact L_14 _ 0 ys yb yt (by omega) h_yt (Nat.lt_succ_self _) _ _ _ V (lv_sub hl [0, 1, 2, 3, 4, 5] rfl)
    · skip
      exact g_vret (Qr := (q_y_lay5 T y0 a0 tk sum ys y1 y2 yb yt an am al ao au a1 a2 a3 a4 a5 a6 a7 a8 a9 a10 af1 af2)) hC V ⟨(Nat.le_of_ble_eq_true rfl), (Nat.le_of_ble_eq_true rfl)⟩ ⟨ys, yb, yt, rfl, rfl, (by first | assumption | omega)⟩ dX0_layFrom_17

def q_y_lay4 (T : Nat → ClassId) (y0 : Nat) (a0 : Nat) (tk : Int32) (sum : Int32) (ys : Int32) (y1 : Nat) (y2 : Nat) (yb : Nat → Int32) (yt : Nat → Int32) (an : Nat) (am : Int32) (al : Int32) (ao : Int32) (au : Int32) (a1 : Nat) (a2 : Nat) (a3 : Nat) (a4 : Nat) (a5 : Nat) (a6 : Nat) (a7 : Nat) (a8 : Nat) (a9 : Nat) (a10 : Nat) (af1 : Nat → Int32) (af2 : Nat → Int32) : Option Value → va_W → Prop := fun rr ww => (∃ (bs : Int32) (g1 : Nat → Int32) (g2 : Nat → Int32), rr = none ∧ ww = [(y0, .inr (0, [.int bs, .ref y1, .ref y2])), (y1, .inl (T 0, 7, .inl g1)), (y2, .inl (T 0, 7, .inl g2)), (a0, .inr (5, [.int (nI an), .int am, .int al, .int ao, .int au, .ref a1, .ref a2, .ref a3, .ref a4, .ref a5, .ref a6, .ref a7, .ref a8, .ref a9, .ref a10])), (a1, .inl (T 0, 10, .inl af1)), (a2, .inl (T 0, 10, .inl af2))] ∧ (∀ i, i < 7 → (g2 i = -1 ∨ bd (g2 i) 7)))
set_option maxHeartbeats 4000000 in
set_option maxRecDepth 100000 in
theorem y_lay4 (l : Launch) (D : va_G) (T : Nat → ClassId) (y0 : Nat) (a0 : Nat) (tk : Int32) (sum : Int32) (ys : Int32) (y1 : Nat) (y2 : Nat) (yb : Nat → Int32) (yt : Nat → Int32) (an : Nat) (am : Int32) (al : Int32) (ao : Int32) (au : Int32) (a1 : Nat) (a2 : Nat) (a3 : Nat) (a4 : Nat) (a5 : Nat) (a6 : Nat) (a7 : Nat) (a8 : Nat) (a9 : Nat) (a10 : Nat) (af1 : Nat → Int32) (af2 : Nat → Int32) (h_n : an ≤ 7) (h_yt : ∀ i, i < 7 → (yt i = -1 ∨ bd (yt i) 7)) : Ct l yX0_layFrom cX0_layFrom 7 none 5 0 0 D T [.ref y0, .ref a0, .int (nI 4), .int tk, .int sum] [(y0, .inr (0, [.int ys, .ref y1, .ref y2])), (y1, .inl (T 0, 7, .inl yb)), (y2, .inl (T 0, 7, .inl yt)), (a0, .inr (5, [.int (nI an), .int am, .int al, .int ao, .int au, .ref a1, .ref a2, .ref a3, .ref a4, .ref a5, .ref a6, .ref a7, .ref a8, .ref a9, .ref a10])), (a1, .inl (T 0, 10, .inl af1)), (a2, .inl (T 0, 10, .inl af2))] (q_y_lay4 T y0 a0 tk sum ys y1 y2 yb yt an am al ao au a1 a2 a3 a4 a5 a6 a7 a8 a9 a10 af1 af2) := by
  refine Ct.of (cc := cX0_layFrom) (maxL := 7) (ret := none) (by decide) (Nat.le_of_ble_eq_true rfl) ?_
  intro p e s m args below meth c A ls hC hnm V hl
  obtain ⟨hx, hb, hr, hml, hown, hts, hlocks⟩ := id hC
  generalize hH : s.heap = H at V ⊢
  clear hH
  have hl : lv_has ls 7 [(0, .ref y0), (1, .ref a0), (2, .int (nI 4)), (3, .int tk), (4, .int sum)] := hl
  generalize hlo : ([] : List Loc) = locs at V ⊢
  clear hlo
  refine lv_aload_n hx hb dX0_layFrom_0 rfl (lv_at hl 0 rfl) ?_
  refine g_get hC V (ci := 0) uwX0 0 rfl rfl 0 (by decide) w_211 rfl rfl dX0_layFrom_1 ?_
  refine lv_iconst (v := (-1)) hx hb dX0_layFrom_4 (by decide +kernel) ?_
  refine lv_icmp_eq (tgt := 18) hx hb dX0_layFrom_5 (by decide) (fun c_1 => ?_) (fun c_1 => ?_)
  · skip
    refine lv_iload_n hx hb dX0_layFrom_18 rfl (lv_at hl 2 rfl) ?_
    refine lv_aload_n hx hb dX0_layFrom_19 rfl (lv_at hl 1 rfl) ?_
    refine g_get hC V (ci := 5) uwX5 3 rfl rfl 0 (by decide) w_35 rfl rfl dX0_layFrom_20 ?_
    refine lv_icmp_ge (tgt := 32) hx hb dX0_layFrom_23 (by decide) (fun c_2 => ?_) (fun c_2 => ?_)
    · skip
      have c_2 := b_le (by omega) (by omega) c_2
      refine lv_aload_n hx hb dX0_layFrom_32 rfl (lv_at hl 0 rfl) ?_
      refine lv_iload hx hb dX0_layFrom_33 (lv_at hl 4 rfl) ?_
      refine g_put hC V (ci := 0) uwX0 tyX0 tyX0_ok nmX0 0 rfl rfl 0 (by decide) w_211 rfl rfl rfl rfl (Nat.le_of_ble_eq_true rfl) (ws' := [(y0, .inr (0, [.int sum, .ref y1, .ref y2])), (y1, .inl (T 0, 7, .inl yb)), (y2, .inl (T 0, 7, .inl yt)), (a0, .inr (5, [.int (nI an), .int am, .int al, .int ao, .int au, .ref a1, .ref a2, .ref a3, .ref a4, .ref a5, .ref a6, .ref a7, .ref a8, .ref a9, .ref a10])), (a1, .inl (T 0, 10, .inl af1)), (a2, .inl (T 0, 10, .inl af2))]) rfl dX0_layFrom_35 (fun H locs V => ?_)
      refine lv_aload_n hx hb dX0_layFrom_38 rfl (lv_at hl 0 rfl) ?_
      refine g_get hC V (ci := 0) uwX0 0 rfl rfl 2 (by decide) w_215 rfl rfl dX0_layFrom_39 ?_
      refine lv_iconst (v := (nI 0)) hx hb dX0_layFrom_42 (by decide +kernel) ?_
      refine lv_aload_n hx hb dX0_layFrom_43 rfl (lv_at hl 0 rfl) ?_
      refine g_get hC V (ci := 0) uwX0 0 rfl rfl 1 (by decide) w_213 rfl rfl dX0_layFrom_44 ?_
      refine lv_iconst (v := (nI 0)) hx hb dX0_layFrom_47 (by decide +kernel) ?_
      refine lv_bipush (v := (nI 7)) hx hb dX0_layFrom_48 (by decide +kernel) ?_
      refine g_copyi hC V hl.1 w_808 w_672 w_671 w_17 2 1 rfl rfl (by decide +kernel) (by decide +kernel) (Nat.le_of_ble_eq_true rfl) (Nat.le_of_ble_eq_true rfl) (Nat.le_of_ble_eq_true rfl) dX0_layFrom_50 (fun g_3 H locs V => ?_)
      have V : gW D T A s [(y0, .inr (0, [.int sum, .ref y1, .ref y2])), (y1, .inl (T 0, 7, .inl g_3)), (y2, .inl (T 0, 7, .inl yt)), (a0, .inr (5, [.int (nI an), .int am, .int al, .int ao, .int au, .ref a1, .ref a2, .ref a3, .ref a4, .ref a5, .ref a6, .ref a7, .ref a8, .ref a9, .ref a10])), (a1, .inl (T 0, 10, .inl af1)), (a2, .inl (T 0, 10, .inl af2))] H locs := V
      exact g_vret (Qr := (q_y_lay4 T y0 a0 tk sum ys y1 y2 yb yt an am al ao au a1 a2 a3 a4 a5 a6 a7 a8 a9 a10 af1 af2)) hC V ⟨(Nat.le_of_ble_eq_true rfl), (Nat.le_of_ble_eq_true rfl)⟩ ⟨sum, g_3, yt, rfl, rfl, (by first | assumption | omega)⟩ dX0_layFrom_53
    · skip
      have c_2 := b_nle (by omega) (by omega) c_2
      refine lv_iload_n hx hb dX0_layFrom_26 rfl (lv_at hl 2 rfl) ?_
      refine lv_bipush (v := (nI 7)) hx hb dX0_layFrom_27 (by decide +kernel) ?_
      refine lv_icmp_lt (tgt := 54) hx hb dX0_layFrom_29 (by decide) (fun _ => ?_) (fun c => absurd (show (nI 4) < (nI 7) by first | rfl | decide +kernel) c)
      refine lv_iconst (v := (nI 0)) hx hb dX0_layFrom_54 (by decide +kernel) ?_
      refine lv_istore (lv' := [(5, .int (nI 0)), (0, .ref y0), (1, .ref a0), (2, .int (nI 4)), (3, .int tk), (4, .int sum)]) hx hb dX0_layFrom_55 hl (by decide) rfl (fun ls hl => ?_)
      have L_4 : ∀ (fu : Nat) (k57 : Nat) (bv : Int32) (ga : Nat → Int32) (gb : Nat → Int32), k57 ≤ an → (∀ i, i < 7 → (gb i = -1 ∨ bd (gb i) 7)) → an - k57 < fu → ∀ (H : Heap) (locs : List Loc) (ls : Array Slot), gW D T A s [(y0, .inr (0, [.int bv, .ref y1, .ref y2])), (y1, .inl (T 0, 7, .inl ga)), (y2, .inl (T 0, 7, .inl gb)), (a0, .inr (5, [.int (nI an), .int am, .int al, .int ao, .int au, .ref a1, .ref a2, .ref a3, .ref a4, .ref a5, .ref a6, .ref a7, .ref a8, .ref a9, .ref a10])), (a1, .inl (T 0, 10, .inl af1)), (a2, .inl (T 0, 10, .inl af2))] H locs → lv_has ls 7 [(5, .int (nI k57)), (0, .ref y0), (1, .ref a0), (2, .int (nI 4)), (3, .int tk), (4, .int sum)] → W p l e (rmD 5 0 0) s m args below meth c H locs 0 0 (MQ below (gQ D A (q_y_lay4 T y0 a0 tk sum ys y1 y2 yb yt an am al ao au a1 a2 a3 a4 a5 a6 a7 a8 a9 a10 af1 af2)) args s 0 0 A) (F0 m 57 ls []) := by
        intro fu_57
        induction fu_57 with
        | zero => intro k57 bv ga gb hk57 hgb hmu; exact absurd hmu (Nat.not_lt_zero _)
        | succ fu_57 ih_57 =>
          intro k57 bv ga gb hk57 hgb hmu_57 H locs ls V hl
          refine lv_iload hx hb dX0_layFrom_57 (lv_at hl 0 rfl) ?_
          refine lv_aload_n hx hb dX0_layFrom_59 rfl (lv_at hl 2 rfl) ?_
          refine g_get hC V (ci := 5) uwX5 3 rfl rfl 0 (by decide) w_35 rfl rfl dX0_layFrom_60 ?_
          refine lv_icmp_ge (tgt := 145) hx hb dX0_layFrom_63 (by decide) (fun c_5 => ?_) (fun c_5 => ?_)
          · skip
            have c_5 := b_le (by omega) (by omega) c_5
            exact g_vret (Qr := (q_y_lay4 T y0 a0 tk sum ys y1 y2 yb yt an am al ao au a1 a2 a3 a4 a5 a6 a7 a8 a9 a10 af1 af2)) hC V ⟨(Nat.le_of_ble_eq_true rfl), (Nat.le_of_ble_eq_true rfl)⟩ ⟨bv, ga, gb, rfl, rfl, (by first | assumption | omega)⟩ dX0_layFrom_145
          · skip
            have c_5 := b_nle (by omega) (by omega) c_5
            refine lv_iload_n hx hb dX0_layFrom_66 rfl (lv_at hl 4 rfl) ?_
            refine lv_iload hx hb dX0_layFrom_67 (lv_at hl 0 rfl) ?_
            refine g_callSNU (nA := 2) (host := RX7) hC V hl.1 (c_isIn l D T tk (nI k57)) w_472 (List.mem_of_getElem? (i := 7) rfl) w_2 w_471 (by decide +kernel) rfl ⟨(Nat.le_of_ble_eq_true rfl), (Nat.le_of_ble_eq_true rfl)⟩ [] rfl rfl (Nat.le_of_ble_eq_true rfl) dX0_layFrom_69 ⟨(Nat.le_of_ble_eq_true rfl), (Nat.le_of_ble_eq_true rfl)⟩ rfl (fun r w1 H locs hQ V => ?_)
            rcases hQ with ⟨rfl, rfl⟩ | ⟨rfl, rfl⟩
            · have V : gW D T A s [(y0, .inr (0, [.int bv, .ref y1, .ref y2])), (y1, .inl (T 0, 7, .inl ga)), (y2, .inl (T 0, 7, .inl gb)), (a0, .inr (5, [.int (nI an), .int am, .int al, .int ao, .int au, .ref a1, .ref a2, .ref a3, .ref a4, .ref a5, .ref a6, .ref a7, .ref a8, .ref a9, .ref a10])), (a1, .inl (T 0, 10, .inl af1)), (a2, .inl (T 0, 10, .inl af2))] H locs := V _ [] rfl rfl rfl (by decide +kernel) rfl
              show W p l e _ s m args below meth c H locs _ _ _ (F0 m 72 ls [.int (nI 1)])
              refine lv_if_ne (tgt := 139) hx hb dX0_layFrom_72 (by decide) (fun _ => ?_) (fun c => absurd (show (nI 1) = 0 from c) (by decide +kernel))
              refine lv_iinc (v := (nI (k57 + 1))) (lv' := [(5, .int (nI (k57 + 1))), (0, .ref y0), (1, .ref a0), (2, .int (nI 4)), (3, .int tk), (4, .int sum)]) hx hb dX0_layFrom_139 hl (k := 0) rfl (nI_1 _) (by decide) rfl (fun ls hl => ?_)
              refine lv_goto (tgt := 57) hx hb dX0_layFrom_142 (by decide) ?_
              exact ih_57 (k57 + 1) bv ga gb (by omega) (by assumption) (by omega) _ _ _ V (lv_sub hl [0, 1, 2, 3, 4, 5] rfl)
            · have V : gW D T A s [(y0, .inr (0, [.int bv, .ref y1, .ref y2])), (y1, .inl (T 0, 7, .inl ga)), (y2, .inl (T 0, 7, .inl gb)), (a0, .inr (5, [.int (nI an), .int am, .int al, .int ao, .int au, .ref a1, .ref a2, .ref a3, .ref a4, .ref a5, .ref a6, .ref a7, .ref a8, .ref a9, .ref a10])), (a1, .inl (T 0, 10, .inl af1)), (a2, .inl (T 0, 10, .inl af2))] H locs := V _ [] rfl rfl rfl (by decide +kernel) rfl
              show W p l e _ s m args below meth c H locs _ _ _ (F0 m 72 ls [.int (nI 0)])
              refine lv_if_ne (tgt := 139) hx hb dX0_layFrom_72 (by decide) (fun c => absurd (show (nI 0) = 0 by decide +kernel) c) (fun _ => ?_)
              refine lv_aload_n hx hb dX0_layFrom_75 rfl (lv_at hl 1 rfl) ?_
              refine lv_aload_n hx hb dX0_layFrom_76 rfl (lv_at hl 2 rfl) ?_
              refine lv_iload_n hx hb dX0_layFrom_77 rfl (lv_at hl 3 rfl) ?_
              refine lv_iload hx hb dX0_layFrom_78 (lv_at hl 0 rfl) ?_
              refine g_callVU (nA := 3) hC V hl.1 (y_closes l D T y0 a0 4 k57 bv y1 y2 gb an am al ao au a1 a2 a3 a4 a5 a6 a7 a8 a9 a10 (by first | assumption | omega) hgb (by first | assumption | omega) (by first | assumption | omega)) w_810 w_812 w_s32 w_7 w_813 (by decide +kernel) rfl ⟨(Nat.le_of_ble_eq_true rfl), (Nat.le_of_ble_eq_true rfl)⟩ 0 (ci := 0) rfl rfl [0, 2, 3] rfl rfl (Nat.le_of_ble_eq_true rfl) dX0_layFrom_80 ⟨(Nat.le_of_ble_eq_true rfl), (Nat.le_of_ble_eq_true rfl)⟩ rfl (fun r w1 H locs hQ V => ?_)
              rcases hQ with ⟨rfl, rfl⟩ | ⟨rfl, rfl⟩
              · have V : gW D T A s [(y0, .inr (0, [.int bv, .ref y1, .ref y2])), (y1, .inl (T 0, 7, .inl ga)), (y2, .inl (T 0, 7, .inl gb)), (a0, .inr (5, [.int (nI an), .int am, .int al, .int ao, .int au, .ref a1, .ref a2, .ref a3, .ref a4, .ref a5, .ref a6, .ref a7, .ref a8, .ref a9, .ref a10])), (a1, .inl (T 0, 10, .inl af1)), (a2, .inl (T 0, 10, .inl af2))] H locs := V _ [0, 1, 0] rfl rfl rfl (by decide +kernel) rfl
                show W p l e _ s m args below meth c H locs _ _ _ (F0 m 83 ls [.int (nI 1)])
                refine lv_if_ne (tgt := 139) hx hb dX0_layFrom_83 (by decide) (fun _ => ?_) (fun c => absurd (show (nI 1) = 0 from c) (by decide +kernel))
                refine lv_iinc (v := (nI (k57 + 1))) (lv' := [(5, .int (nI (k57 + 1))), (0, .ref y0), (1, .ref a0), (2, .int (nI 4)), (3, .int tk), (4, .int sum)]) hx hb dX0_layFrom_139 hl (k := 0) rfl (nI_1 _) (by decide) rfl (fun ls hl => ?_)
                refine lv_goto (tgt := 57) hx hb dX0_layFrom_142 (by decide) ?_
                exact ih_57 (k57 + 1) bv ga gb (by omega) (by assumption) (by omega) _ _ _ V (lv_sub hl [0, 1, 2, 3, 4, 5] rfl)
              · have V : gW D T A s [(y0, .inr (0, [.int bv, .ref y1, .ref y2])), (y1, .inl (T 0, 7, .inl ga)), (y2, .inl (T 0, 7, .inl gb)), (a0, .inr (5, [.int (nI an), .int am, .int al, .int ao, .int au, .ref a1, .ref a2, .ref a3, .ref a4, .ref a5, .ref a6, .ref a7, .ref a8, .ref a9, .ref a10])), (a1, .inl (T 0, 10, .inl af1)), (a2, .inl (T 0, 10, .inl af2))] H locs := V _ [0, 1, 0] rfl rfl rfl (by decide +kernel) rfl
                show W p l e _ s m args below meth c H locs _ _ _ (F0 m 83 ls [.int (nI 0)])
                refine lv_if_ne (tgt := 139) hx hb dX0_layFrom_83 (by decide) (fun c => absurd (show (nI 0) = 0 by decide +kernel) c) (fun _ => ?_)
                refine lv_aload_n hx hb dX0_layFrom_86 rfl (lv_at hl 1 rfl) ?_
                refine g_get hC V (ci := 0) uwX0 0 rfl rfl 2 (by decide) w_215 rfl rfl dX0_layFrom_87 ?_
                refine lv_iload_n hx hb dX0_layFrom_90 rfl (lv_at hl 3 rfl) ?_
                refine lv_iload hx hb dX0_layFrom_91 (lv_at hl 0 rfl) ?_
                refine g_iast hC V 2 rfl (vp_in_nI (by decide) (by decide)) (f' := (upd gb 4 (nI k57))) (by rw [nI_clamp (by decide)]) (ws' := [(y0, .inr (0, [.int bv, .ref y1, .ref y2])), (y1, .inl (T 0, 7, .inl ga)), (y2, .inl (T 0, 7, .inl (upd gb 4 (nI k57)))), (a0, .inr (5, [.int (nI an), .int am, .int al, .int ao, .int au, .ref a1, .ref a2, .ref a3, .ref a4, .ref a5, .ref a6, .ref a7, .ref a8, .ref a9, .ref a10])), (a1, .inl (T 0, 10, .inl af1)), (a2, .inl (T 0, 10, .inl af2))]) rfl dX0_layFrom_93 (fun H locs V => ?_)
                refine lv_aload_n hx hb dX0_layFrom_94 rfl (lv_at hl 2 rfl) ?_
                refine g_get hC V (ci := 5) uwX5 3 rfl rfl 5 (by decide) w_52 rfl rfl dX0_layFrom_95 ?_
                refine lv_iload_n hx hb dX0_layFrom_98 rfl (lv_at hl 3 rfl) ?_
                refine g_iald hC V 4 rfl (vp_in_nI (by decide) (by decide)) (v := (af1 4)) (congrArg _ (nI_clamp (by decide))) dX0_layFrom_99 ?_
                refine lv_aload_n hx hb dX0_layFrom_100 rfl (lv_at hl 2 rfl) ?_
                refine g_get hC V (ci := 5) uwX5 3 rfl rfl 6 (by decide) w_58 rfl rfl dX0_layFrom_101 ?_
                refine lv_iload hx hb dX0_layFrom_104 (lv_at hl 0 rfl) ?_
                refine g_iald hC V 5 rfl (vp_in_nI (by omega) (by omega)) (v := (af2 k57)) (congrArg _ (nI_clamp (by omega))) dX0_layFrom_106 ?_
                refine lv_isub hx hb dX0_layFrom_107 ?_
                refine va_mabs hx hb (hml.trans hl.1.symm) hown (hts _ w_814) (hts _ w_815) (hts _ w_10) (hts _ w_816) (Nat.le_of_ble_eq_true rfl) (Nat.le_of_ble_eq_true rfl) (Nat.le_of_ble_eq_true rfl) (Nat.le_of_ble_eq_true rfl) dX0_layFrom_108 ?_
                refine lv_topi (fun x_6 ex_6 => ?_)
                refine lv_istore (lv' := [(6, .int x_6), (5, .int (nI k57)), (0, .ref y0), (1, .ref a0), (2, .int (nI 4)), (3, .int tk), (4, .int sum)]) hx hb dX0_layFrom_111 hl (by decide) rfl (fun ls hl => ?_)
                refine lv_aload_n hx hb dX0_layFrom_113 rfl (lv_at hl 2 rfl) ?_
                refine lv_aload_n hx hb dX0_layFrom_114 rfl (lv_at hl 3 rfl) ?_
                refine lv_iload_n hx hb dX0_layFrom_115 rfl (lv_at hl 4 rfl) ?_
                refine lv_iconst (v := (nI 1)) hx hb dX0_layFrom_116 (by decide +kernel) ?_
                refine lv_iadd hx hb dX0_layFrom_117 ?_
                refine g_vi (y := (nI 5)) (by decide +kernel) ?_
                refine lv_iload_n hx hb dX0_layFrom_118 rfl (lv_at hl 5 rfl) ?_
                refine lv_iconst (v := (nI 1)) hx hb dX0_layFrom_119 (by decide +kernel) ?_
                refine lv_iload hx hb dX0_layFrom_120 (lv_at hl 1 rfl) ?_
                refine lv_ishl hx hb dX0_layFrom_122 ?_
                refine lv_ior hx hb dX0_layFrom_123 ?_
                refine lv_iload hx hb dX0_layFrom_124 (lv_at hl 6 rfl) ?_
                refine lv_iload hx hb dX0_layFrom_126 (lv_at hl 0 rfl) ?_
                refine lv_iadd hx hb dX0_layFrom_128 ?_
                refine g_callV (wr := []) (nA := 4) hC V hl.1 (y_lay5 l D T y0 a0 (tk ||| ((nI 1) <<< ((nI k57) &&& 31))) (sum + x_6) bv y1 y2 ga (upd gb 4 (nI k57)) an am al ao au a1 a2 a3 a4 a5 a6 a7 a8 a9 a10 af1 af2 (by first | assumption | omega) (up_all (p := fun x => x = -1 ∨ bd x 7) hgb (fun _ => Or.inr (bd_nI (by omega))))) w_804 w_806 w_s31 w_7 w_807 (by decide +kernel) rfl ⟨(Nat.le_of_ble_eq_true rfl), (Nat.le_of_ble_eq_true rfl)⟩ 0 (ci := 0) rfl rfl [0, 1, 2, 3, 4, 5] [] rfl rfl rfl rfl (by decide) (Nat.le_of_ble_eq_true rfl) dX0_layFrom_129 ⟨(Nat.le_of_ble_eq_true rfl), (Nat.le_of_ble_eq_true rfl)⟩ rfl (fun r w1 H locs hQ V => ?_)
                obtain ⟨bs_7, g1_8, g2_9, rfl, rfl, f_10⟩ := hQ
                have V : gW D T A s [(y0, .inr (0, [.int bs_7, .ref y1, .ref y2])), (y1, .inl (T 0, 7, .inl g1_8)), (y2, .inl (T 0, 7, .inl g2_9)), (a0, .inr (5, [.int (nI an), .int am, .int al, .int ao, .int au, .ref a1, .ref a2, .ref a3, .ref a4, .ref a5, .ref a6, .ref a7, .ref a8, .ref a9, .ref a10])), (a1, .inl (T 0, 10, .inl af1)), (a2, .inl (T 0, 10, .inl af2))] H locs := V
                show W p l e _ s m args below meth c H locs _ _ _ (F0 m 132 ls [])
                have hq := up_all (p := fun x => x = -1 ∨ bd x 7) (k := 4) (x := -1) f_10 (fun _ => Or.inl rfl)
                refine lv_aload_n hx hb dX0_layFrom_132 rfl (lv_at hl 2 rfl) ?_
                refine g_get hC V (ci := 0) uwX0 0 rfl rfl 2 (by decide) w_215 rfl rfl dX0_layFrom_133 ?_
                refine lv_iload_n hx hb dX0_layFrom_136 rfl (lv_at hl 4 rfl) ?_
                refine lv_iconst (v := (-1)) hx hb dX0_layFrom_137 (by decide +kernel) ?_
                refine g_iast hC V 2 rfl (vp_in_nI (by decide) (by decide)) (f' := (upd g2_9 4 (-1))) (by rw [nI_clamp (by decide)]) (ws' := [(y0, .inr (0, [.int bs_7, .ref y1, .ref y2])), (y1, .inl (T 0, 7, .inl g1_8)), (y2, .inl (T 0, 7, .inl (upd g2_9 4 (-1)))), (a0, .inr (5, [.int (nI an), .int am, .int al, .int ao, .int au, .ref a1, .ref a2, .ref a3, .ref a4, .ref a5, .ref a6, .ref a7, .ref a8, .ref a9, .ref a10])), (a1, .inl (T 0, 10, .inl af1)), (a2, .inl (T 0, 10, .inl af2))]) rfl dX0_layFrom_138 (fun H locs V => ?_)
                refine lv_iinc (v := (nI (k57 + 1))) (lv' := [(5, .int (nI (k57 + 1))), (6, .int x_6), (0, .ref y0), (1, .ref a0), (2, .int (nI 4)), (3, .int tk), (4, .int sum)]) hx hb dX0_layFrom_139 hl (k := 1) rfl (nI_1 _) (by decide) rfl (fun ls hl => ?_)
                refine lv_goto (tgt := 57) hx hb dX0_layFrom_142 (by decide) ?_
                exact ih_57 (k57 + 1) bs_7 g1_8 (upd g2_9 4 (-1)) (by omega) (by assumption) (by omega) _ _ _ V (lv_sub hl [0, 2, 3, 4, 5, 6] rfl)
      exact L_4 _ 0 ys yb yt (by omega) h_yt (Nat.lt_succ_self _) _ _ _ V (lv_sub hl [0, 1, 2, 3, 4, 5] rfl)
  · skip
    refine lv_iload hx hb dX0_layFrom_8 (lv_at hl 4 rfl) ?_
    refine lv_aload_n hx hb dX0_layFrom_10 rfl (lv_at hl 0 rfl) ?_
    refine g_get hC V (ci := 0) uwX0 0 rfl rfl 0 (by decide) w_211 rfl rfl dX0_layFrom_11 ?_
    refine lv_icmp_lt (tgt := 18) hx hb dX0_layFrom_14 (by decide) (fun c_11 => ?_) (fun c_11 => ?_)
    · skip
      refine lv_iload_n hx hb dX0_layFrom_18 rfl (lv_at hl 2 rfl) ?_
      refine lv_aload_n hx hb dX0_layFrom_19 rfl (lv_at hl 1 rfl) ?_
      refine g_get hC V (ci := 5) uwX5 3 rfl rfl 0 (by decide) w_35 rfl rfl dX0_layFrom_20 ?_
      refine lv_icmp_ge (tgt := 32) hx hb dX0_layFrom_23 (by decide) (fun c_12 => ?_) (fun c_12 => ?_)
      · skip
        have c_12 := b_le (by omega) (by omega) c_12
        refine lv_aload_n hx hb dX0_layFrom_32 rfl (lv_at hl 0 rfl) ?_
        refine lv_iload hx hb dX0_layFrom_33 (lv_at hl 4 rfl) ?_
        refine g_put hC V (ci := 0) uwX0 tyX0 tyX0_ok nmX0 0 rfl rfl 0 (by decide) w_211 rfl rfl rfl rfl (Nat.le_of_ble_eq_true rfl) (ws' := [(y0, .inr (0, [.int sum, .ref y1, .ref y2])), (y1, .inl (T 0, 7, .inl yb)), (y2, .inl (T 0, 7, .inl yt)), (a0, .inr (5, [.int (nI an), .int am, .int al, .int ao, .int au, .ref a1, .ref a2, .ref a3, .ref a4, .ref a5, .ref a6, .ref a7, .ref a8, .ref a9, .ref a10])), (a1, .inl (T 0, 10, .inl af1)), (a2, .inl (T 0, 10, .inl af2))]) rfl dX0_layFrom_35 (fun H locs V => ?_)
        refine lv_aload_n hx hb dX0_layFrom_38 rfl (lv_at hl 0 rfl) ?_
        refine g_get hC V (ci := 0) uwX0 0 rfl rfl 2 (by decide) w_215 rfl rfl dX0_layFrom_39 ?_
        refine lv_iconst (v := (nI 0)) hx hb dX0_layFrom_42 (by decide +kernel) ?_
        refine lv_aload_n hx hb dX0_layFrom_43 rfl (lv_at hl 0 rfl) ?_
        refine g_get hC V (ci := 0) uwX0 0 rfl rfl 1 (by decide) w_213 rfl rfl dX0_layFrom_44 ?_
        refine lv_iconst (v := (nI 0)) hx hb dX0_layFrom_47 (by decide +kernel) ?_
        refine lv_bipush (v := (nI 7)) hx hb dX0_layFrom_48 (by decide +kernel) ?_
        refine g_copyi hC V hl.1 w_808 w_672 w_671 w_17 2 1 rfl rfl (by decide +kernel) (by decide +kernel) (Nat.le_of_ble_eq_true rfl) (Nat.le_of_ble_eq_true rfl) (Nat.le_of_ble_eq_true rfl) dX0_layFrom_50 (fun g_13 H locs V => ?_)
        have V : gW D T A s [(y0, .inr (0, [.int sum, .ref y1, .ref y2])), (y1, .inl (T 0, 7, .inl g_13)), (y2, .inl (T 0, 7, .inl yt)), (a0, .inr (5, [.int (nI an), .int am, .int al, .int ao, .int au, .ref a1, .ref a2, .ref a3, .ref a4, .ref a5, .ref a6, .ref a7, .ref a8, .ref a9, .ref a10])), (a1, .inl (T 0, 10, .inl af1)), (a2, .inl (T 0, 10, .inl af2))] H locs := V
        exact g_vret (Qr := (q_y_lay4 T y0 a0 tk sum ys y1 y2 yb yt an am al ao au a1 a2 a3 a4 a5 a6 a7 a8 a9 a10 af1 af2)) hC V ⟨(Nat.le_of_ble_eq_true rfl), (Nat.le_of_ble_eq_true rfl)⟩ ⟨sum, g_13, yt, rfl, rfl, (by first | assumption | omega)⟩ dX0_layFrom_53
      · skip
        have c_12 := b_nle (by omega) (by omega) c_12
        refine lv_iload_n hx hb dX0_layFrom_26 rfl (lv_at hl 2 rfl) ?_
        refine lv_bipush (v := (nI 7)) hx hb dX0_layFrom_27 (by decide +kernel) ?_
        refine lv_icmp_lt (tgt := 54) hx hb dX0_layFrom_29 (by decide) (fun _ => ?_) (fun c => absurd (show (nI 4) < (nI 7) by first | rfl | decide +kernel) c)
        refine lv_iconst (v := (nI 0)) hx hb dX0_layFrom_54 (by decide +kernel) ?_
        refine lv_istore (lv' := [(5, .int (nI 0)), (0, .ref y0), (1, .ref a0), (2, .int (nI 4)), (3, .int tk), (4, .int sum)]) hx hb dX0_layFrom_55 hl (by decide) rfl (fun ls hl => ?_)
        have L_14 : ∀ (fu : Nat) (k57 : Nat) (bv : Int32) (ga : Nat → Int32) (gb : Nat → Int32), k57 ≤ an → (∀ i, i < 7 → (gb i = -1 ∨ bd (gb i) 7)) → an - k57 < fu → ∀ (H : Heap) (locs : List Loc) (ls : Array Slot), gW D T A s [(y0, .inr (0, [.int bv, .ref y1, .ref y2])), (y1, .inl (T 0, 7, .inl ga)), (y2, .inl (T 0, 7, .inl gb)), (a0, .inr (5, [.int (nI an), .int am, .int al, .int ao, .int au, .ref a1, .ref a2, .ref a3, .ref a4, .ref a5, .ref a6, .ref a7, .ref a8, .ref a9, .ref a10])), (a1, .inl (T 0, 10, .inl af1)), (a2, .inl (T 0, 10, .inl af2))] H locs → lv_has ls 7 [(5, .int (nI k57)), (0, .ref y0), (1, .ref a0), (2, .int (nI 4)), (3, .int tk), (4, .int sum)] → W p l e (rmD 5 0 0) s m args below meth c H locs 0 0 (MQ below (gQ D A (q_y_lay4 T y0 a0 tk sum ys y1 y2 yb yt an am al ao au a1 a2 a3 a4 a5 a6 a7 a8 a9 a10 af1 af2)) args s 0 0 A) (F0 m 57 ls []) := by
          intro fu_57
          induction fu_57 with
          | zero => intro k57 bv ga gb hk57 hgb hmu; exact absurd hmu (Nat.not_lt_zero _)
          | succ fu_57 ih_57 =>
            intro k57 bv ga gb hk57 hgb hmu_57 H locs ls V hl
            refine lv_iload hx hb dX0_layFrom_57 (lv_at hl 0 rfl) ?_
            refine lv_aload_n hx hb dX0_layFrom_59 rfl (lv_at hl 2 rfl) ?_
            refine g_get hC V (ci := 5) uwX5 3 rfl rfl 0 (by decide) w_35 rfl rfl dX0_layFrom_60 ?_
            refine lv_icmp_ge (tgt := 145) hx hb dX0_layFrom_63 (by decide) (fun c_15 => ?_) (fun c_15 => ?_)
            · skip
              have c_15 := b_le (by omega) (by omega) c_15
              exact g_vret (Qr := (q_y_lay4 T y0 a0 tk sum ys y1 y2 yb yt an am al ao au a1 a2 a3 a4 a5 a6 a7 a8 a9 a10 af1 af2)) hC V ⟨(Nat.le_of_ble_eq_true rfl), (Nat.le_of_ble_eq_true rfl)⟩ ⟨bv, ga, gb, rfl, rfl, (by first | assumption | omega)⟩ dX0_layFrom_145
            · skip
              have c_15 := b_nle (by omega) (by omega) c_15
              refine lv_iload_n hx hb dX0_layFrom_66 rfl (lv_at hl 4 rfl) ?_
              refine lv_iload hx hb dX0_layFrom_67 (lv_at hl 0 rfl) ?_
              refine g_callSNU (nA := 2) (host := RX7) hC V hl.1 (c_isIn l D T tk (nI k57)) w_472 (List.mem_of_getElem? (i := 7) rfl) w_2 w_471 (by decide +kernel) rfl ⟨(Nat.le_of_ble_eq_true rfl), (Nat.le_of_ble_eq_true rfl)⟩ [] rfl rfl (Nat.le_of_ble_eq_true rfl) dX0_layFrom_69 ⟨(Nat.le_of_ble_eq_true rfl), (Nat.le_of_ble_eq_true rfl)⟩ rfl (fun r w1 H locs hQ V => ?_)
              rcases hQ with ⟨rfl, rfl⟩ | ⟨rfl, rfl⟩
              · have V : gW D T A s [(y0, .inr (0, [.int bv, .ref y1, .ref y2])), (y1, .inl (T 0, 7, .inl ga)), (y2, .inl (T 0, 7, .inl gb)), (a0, .inr (5, [.int (nI an), .int am, .int al, .int ao, .int au, .ref a1, .ref a2, .ref a3, .ref a4, .ref a5, .ref a6, .ref a7, .ref a8, .ref a9, .ref a10])), (a1, .inl (T 0, 10, .inl af1)), (a2, .inl (T 0, 10, .inl af2))] H locs := V _ [] rfl rfl rfl (by decide +kernel) rfl
                show W p l e _ s m args below meth c H locs _ _ _ (F0 m 72 ls [.int (nI 1)])
                refine lv_if_ne (tgt := 139) hx hb dX0_layFrom_72 (by decide) (fun _ => ?_) (fun c => absurd (show (nI 1) = 0 from c) (by decide +kernel))
                refine lv_iinc (v := (nI (k57 + 1))) (lv' := [(5, .int (nI (k57 + 1))), (0, .ref y0), (1, .ref a0), (2, .int (nI 4)), (3, .int tk), (4, .int sum)]) hx hb dX0_layFrom_139 hl (k := 0) rfl (nI_1 _) (by decide) rfl (fun ls hl => ?_)
                refine lv_goto (tgt := 57) hx hb dX0_layFrom_142 (by decide) ?_
                exact ih_57 (k57 + 1) bv ga gb (by omega) (by assumption) (by omega) _ _ _ V (lv_sub hl [0, 1, 2, 3, 4, 5] rfl)
              · have V : gW D T A s [(y0, .inr (0, [.int bv, .ref y1, .ref y2])), (y1, .inl (T 0, 7, .inl ga)), (y2, .inl (T 0, 7, .inl gb)), (a0, .inr (5, [.int (nI an), .int am, .int al, .int ao, .int au, .ref a1, .ref a2, .ref a3, .ref a4, .ref a5, .ref a6, .ref a7, .ref a8, .ref a9, .ref a10])), (a1, .inl (T 0, 10, .inl af1)), (a2, .inl (T 0, 10, .inl af2))] H locs := V _ [] rfl rfl rfl (by decide +kernel) rfl
                show W p l e _ s m args below meth c H locs _ _ _ (F0 m 72 ls [.int (nI 0)])
                refine lv_if_ne (tgt := 139) hx hb dX0_layFrom_72 (by decide) (fun c => absurd (show (nI 0) = 0 by decide +kernel) c) (fun _ => ?_)
                refine lv_aload_n hx hb dX0_layFrom_75 rfl (lv_at hl 1 rfl) ?_
                refine lv_aload_n hx hb dX0_layFrom_76 rfl (lv_at hl 2 rfl) ?_
                refine lv_iload_n hx hb dX0_layFrom_77 rfl (lv_at hl 3 rfl) ?_
                refine lv_iload hx hb dX0_layFrom_78 (lv_at hl 0 rfl) ?_
                refine g_callVU (nA := 3) hC V hl.1 (y_closes l D T y0 a0 4 k57 bv y1 y2 gb an am al ao au a1 a2 a3 a4 a5 a6 a7 a8 a9 a10 (by first | assumption | omega) hgb (by first | assumption | omega) (by first | assumption | omega)) w_810 w_812 w_s32 w_7 w_813 (by decide +kernel) rfl ⟨(Nat.le_of_ble_eq_true rfl), (Nat.le_of_ble_eq_true rfl)⟩ 0 (ci := 0) rfl rfl [0, 2, 3] rfl rfl (Nat.le_of_ble_eq_true rfl) dX0_layFrom_80 ⟨(Nat.le_of_ble_eq_true rfl), (Nat.le_of_ble_eq_true rfl)⟩ rfl (fun r w1 H locs hQ V => ?_)
                rcases hQ with ⟨rfl, rfl⟩ | ⟨rfl, rfl⟩
                · have V : gW D T A s [(y0, .inr (0, [.int bv, .ref y1, .ref y2])), (y1, .inl (T 0, 7, .inl ga)), (y2, .inl (T 0, 7, .inl gb)), (a0, .inr (5, [.int (nI an), .int am, .int al, .int ao, .int au, .ref a1, .ref a2, .ref a3, .ref a4, .ref a5, .ref a6, .ref a7, .ref a8, .ref a9, .ref a10])), (a1, .inl (T 0, 10, .inl af1)), (a2, .inl (T 0, 10, .inl af2))] H locs := V _ [0, 1, 0] rfl rfl rfl (by decide +kernel) rfl
                  show W p l e _ s m args below meth c H locs _ _ _ (F0 m 83 ls [.int (nI 1)])
                  refine lv_if_ne (tgt := 139) hx hb dX0_layFrom_83 (by decide) (fun _ => ?_) (fun c => absurd (show (nI 1) = 0 from c) (by decide +kernel))
                  refine lv_iinc (v := (nI (k57 + 1))) (lv' := [(5, .int (nI (k57 + 1))), (0, .ref y0), (1, .ref a0), (2, .int (nI 4)), (3, .int tk), (4, .int sum)]) hx hb dX0_layFrom_139 hl (k := 0) rfl (nI_1 _) (by decide) rfl (fun ls hl => ?_)
                  refine lv_goto (tgt := 57) hx hb dX0_layFrom_142 (by decide) ?_
                  exact ih_57 (k57 + 1) bv ga gb (by omega) (by assumption) (by omega) _ _ _ V (lv_sub hl [0, 1, 2, 3, 4, 5] rfl)
                · have V : gW D T A s [(y0, .inr (0, [.int bv, .ref y1, .ref y2])), (y1, .inl (T 0, 7, .inl ga)), (y2, .inl (T 0, 7, .inl gb)), (a0, .inr (5, [.int (nI an), .int am, .int al, .int ao, .int au, .ref a1, .ref a2, .ref a3, .ref a4, .ref a5, .ref a6, .ref a7, .ref a8, .ref a9, .ref a10])), (a1, .inl (T 0, 10, .inl af1)), (a2, .inl (T 0, 10, .inl af2))] H locs := V _ [0, 1, 0] rfl rfl rfl (by decide +kernel) rfl
                  show W p l e _ s m args below meth c H locs _ _ _ (F0 m 83 ls [.int (nI 0)])
                  refine lv_if_ne (tgt := 139) hx hb dX0_layFrom_83 (by decide) (fun c => absurd (show (nI 0) = 0 by decide +kernel) c) (fun _ => ?_)
                  refine lv_aload_n hx hb dX0_layFrom_86 rfl (lv_at hl 1 rfl) ?_
                  refine g_get hC V (ci := 0) uwX0 0 rfl rfl 2 (by decide) w_215 rfl rfl dX0_layFrom_87 ?_
                  refine lv_iload_n hx hb dX0_layFrom_90 rfl (lv_at hl 3 rfl) ?_
                  refine lv_iload hx hb dX0_layFrom_91 (lv_at hl 0 rfl) ?_
                  refine g_iast hC V 2 rfl (vp_in_nI (by decide) (by decide)) (f' := (upd gb 4 (nI k57))) (by rw [nI_clamp (by decide)]) (ws' := [(y0, .inr (0, [.int bv, .ref y1, .ref y2])), (y1, .inl (T 0, 7, .inl ga)), (y2, .inl (T 0, 7, .inl (upd gb 4 (nI k57)))), (a0, .inr (5, [.int (nI an), .int am, .int al, .int ao, .int au, .ref a1, .ref a2, .ref a3, .ref a4, .ref a5, .ref a6, .ref a7, .ref a8, .ref a9, .ref a10])), (a1, .inl (T 0, 10, .inl af1)), (a2, .inl (T 0, 10, .inl af2))]) rfl dX0_layFrom_93 (fun H locs V => ?_)
                  refine lv_aload_n hx hb dX0_layFrom_94 rfl (lv_at hl 2 rfl) ?_
                  refine g_get hC V (ci := 5) uwX5 3 rfl rfl 5 (by decide) w_52 rfl rfl dX0_layFrom_95 ?_
                  refine lv_iload_n hx hb dX0_layFrom_98 rfl (lv_at hl 3 rfl) ?_
                  refine g_iald hC V 4 rfl (vp_in_nI (by decide) (by decide)) (v := (af1 4)) (congrArg _ (nI_clamp (by decide))) dX0_layFrom_99 ?_
                  refine lv_aload_n hx hb dX0_layFrom_100 rfl (lv_at hl 2 rfl) ?_
                  refine g_get hC V (ci := 5) uwX5 3 rfl rfl 6 (by decide) w_58 rfl rfl dX0_layFrom_101 ?_
                  refine lv_iload hx hb dX0_layFrom_104 (lv_at hl 0 rfl) ?_
                  refine g_iald hC V 5 rfl (vp_in_nI (by omega) (by omega)) (v := (af2 k57)) (congrArg _ (nI_clamp (by omega))) dX0_layFrom_106 ?_
                  refine lv_isub hx hb dX0_layFrom_107 ?_
                  refine va_mabs hx hb (hml.trans hl.1.symm) hown (hts _ w_814) (hts _ w_815) (hts _ w_10) (hts _ w_816) (Nat.le_of_ble_eq_true rfl) (Nat.le_of_ble_eq_true rfl) (Nat.le_of_ble_eq_true rfl) (Nat.le_of_ble_eq_true rfl) dX0_layFrom_108 ?_
                  refine lv_topi (fun x_16 ex_16 => ?_)
                  refine lv_istore (lv' := [(6, .int x_16), (5, .int (nI k57)), (0, .ref y0), (1, .ref a0), (2, .int (nI 4)), (3, .int tk), (4, .int sum)]) hx hb dX0_layFrom_111 hl (by decide) rfl (fun ls hl => ?_)
                  refine lv_aload_n hx hb dX0_layFrom_113 rfl (lv_at hl 2 rfl) ?_
                  refine lv_aload_n hx hb dX0_layFrom_114 rfl (lv_at hl 3 rfl) ?_
                  refine lv_iload_n hx hb dX0_layFrom_115 rfl (lv_at hl 4 rfl) ?_
                  refine lv_iconst (v := (nI 1)) hx hb dX0_layFrom_116 (by decide +kernel) ?_
                  refine lv_iadd hx hb dX0_layFrom_117 ?_
                  refine g_vi (y := (nI 5)) (by decide +kernel) ?_
                  refine lv_iload_n hx hb dX0_layFrom_118 rfl (lv_at hl 5 rfl) ?_
                  refine lv_iconst (v := (nI 1)) hx hb dX0_layFrom_119 (by decide +kernel) ?_
                  refine lv_iload hx hb dX0_layFrom_120 (lv_at hl 1 rfl) ?_
                  refine lv_ishl hx hb dX0_layFrom_122 ?_
                  refine lv_ior hx hb dX0_layFrom_123 ?_
                  refine lv_iload hx hb dX0_layFrom_124 (lv_at hl 6 rfl) ?_
                  refine lv_iload hx hb dX0_layFrom_126 (lv_at hl 0 rfl) ?_
                  refine lv_iadd hx hb dX0_layFrom_128 ?_
                  refine g_callV (wr := []) (nA := 4) hC V hl.1 (y_lay5 l D T y0 a0 (tk ||| ((nI 1) <<< ((nI k57) &&& 31))) (sum + x_16) bv y1 y2 ga (upd gb 4 (nI k57)) an am al ao au a1 a2 a3 a4 a5 a6 a7 a8 a9 a10 af1 af2 (by first | assumption | omega) (up_all (p := fun x => x = -1 ∨ bd x 7) hgb (fun _ => Or.inr (bd_nI (by omega))))) w_804 w_806 w_s31 w_7 w_807 (by decide +kernel) rfl ⟨(Nat.le_of_ble_eq_true rfl), (Nat.le_of_ble_eq_true rfl)⟩ 0 (ci := 0) rfl rfl [0, 1, 2, 3, 4, 5] [] rfl rfl rfl rfl (by decide) (Nat.le_of_ble_eq_true rfl) dX0_layFrom_129 ⟨(Nat.le_of_ble_eq_true rfl), (Nat.le_of_ble_eq_true rfl)⟩ rfl (fun r w1 H locs hQ V => ?_)
                  obtain ⟨bs_17, g1_18, g2_19, rfl, rfl, f_20⟩ := hQ
                  have V : gW D T A s [(y0, .inr (0, [.int bs_17, .ref y1, .ref y2])), (y1, .inl (T 0, 7, .inl g1_18)), (y2, .inl (T 0, 7, .inl g2_19)), (a0, .inr (5, [.int (nI an), .int am, .int al, .int ao, .int au, .ref a1, .ref a2, .ref a3, .ref a4, .ref a5, .ref a6, .ref a7, .ref a8, .ref a9, .ref a10])), (a1, .inl (T 0, 10, .inl af1)), (a2, .inl (T 0, 10, .inl af2))] H locs := V
                  show W p l e _ s m args below meth c H locs _ _ _ (F0 m 132 ls [])
                  have hq := up_all (p := fun x => x = -1 ∨ bd x 7) (k := 4) (x := -1) f_20 (fun _ => Or.inl rfl)
                  refine lv_aload_n hx hb dX0_layFrom_132 rfl (lv_at hl 2 rfl) ?_
                  refine g_get hC V (ci := 0) uwX0 0 rfl rfl 2 (by decide) w_215 rfl rfl dX0_layFrom_133 ?_
                  refine lv_iload_n hx hb dX0_layFrom_136 rfl (lv_at hl 4 rfl) ?_
                  refine lv_iconst (v := (-1)) hx hb dX0_layFrom_137 (by decide +kernel) ?_
                  refine g_iast hC V 2 rfl (vp_in_nI (by decide) (by decide)) (f' := (upd g2_19 4 (-1))) (by rw [nI_clamp (by decide)]) (ws' := [(y0, .inr (0, [.int bs_17, .ref y1, .ref y2])), (y1, .inl (T 0, 7, .inl g1_18)), (y2, .inl (T 0, 7, .inl (upd g2_19 4 (-1)))), (a0, .inr (5, [.int (nI an), .int am, .int al, .int ao, .int au, .ref a1, .ref a2, .ref a3, .ref a4, .ref a5, .ref a6, .ref a7, .ref a8, .ref a9, .ref a10])), (a1, .inl (T 0, 10, .inl af1)), (a2, .inl (T 0, 10, .inl af2))]) rfl dX0_layFrom_138 (fun H locs V => ?_)
                  refine lv_iinc (v := (nI (k57 + 1))) (lv' := [(5, .int (nI (k57 + 1))), (6, .int x_16), (0, .ref y0), (1, .ref a0), (2, .int (nI 4)), (3, .int tk), (4, .int sum)]) hx hb dX0_layFrom_139 hl (k := 1) rfl (nI_1 _) (by decide) rfl (fun ls hl => ?_)
                  refine lv_goto (tgt := 57) hx hb dX0_layFrom_142 (by decide) ?_
                  exact ih_57 (k57 + 1) bs_17 g1_18 (upd g2_19 4 (-1)) (by omega) (by assumption) (by omega) _ _ _ V (lv_sub hl [0, 2, 3, 4, 5, 6] rfl)
        exact L_14 _ 0 ys yb yt (by omega) h_yt (Nat.lt_succ_self _) _ _ _ V (lv_sub hl [0, 1, 2, 3, 4, 5] rfl)
    · skip
      exact g_vret (Qr := (q_y_lay4 T y0 a0 tk sum ys y1 y2 yb yt an am al ao au a1 a2 a3 a4 a5 a6 a7 a8 a9 a10 af1 af2)) hC V ⟨(Nat.le_of_ble_eq_true rfl), (Nat.le_of_ble_eq_true rfl)⟩ ⟨ys, yb, yt, rfl, rfl, (by first | assumption | omega)⟩ dX0_layFrom_17

def q_y_lay3 (T : Nat → ClassId) (y0 : Nat) (a0 : Nat) (tk : Int32) (sum : Int32) (ys : Int32) (y1 : Nat) (y2 : Nat) (yb : Nat → Int32) (yt : Nat → Int32) (an : Nat) (am : Int32) (al : Int32) (ao : Int32) (au : Int32) (a1 : Nat) (a2 : Nat) (a3 : Nat) (a4 : Nat) (a5 : Nat) (a6 : Nat) (a7 : Nat) (a8 : Nat) (a9 : Nat) (a10 : Nat) (af1 : Nat → Int32) (af2 : Nat → Int32) : Option Value → va_W → Prop := fun rr ww => (∃ (bs : Int32) (g1 : Nat → Int32) (g2 : Nat → Int32), rr = none ∧ ww = [(y0, .inr (0, [.int bs, .ref y1, .ref y2])), (y1, .inl (T 0, 7, .inl g1)), (y2, .inl (T 0, 7, .inl g2)), (a0, .inr (5, [.int (nI an), .int am, .int al, .int ao, .int au, .ref a1, .ref a2, .ref a3, .ref a4, .ref a5, .ref a6, .ref a7, .ref a8, .ref a9, .ref a10])), (a1, .inl (T 0, 10, .inl af1)), (a2, .inl (T 0, 10, .inl af2))] ∧ (∀ i, i < 7 → (g2 i = -1 ∨ bd (g2 i) 7)))
set_option maxHeartbeats 4000000 in
set_option maxRecDepth 100000 in
theorem y_lay3 (l : Launch) (D : va_G) (T : Nat → ClassId) (y0 : Nat) (a0 : Nat) (tk : Int32) (sum : Int32) (ys : Int32) (y1 : Nat) (y2 : Nat) (yb : Nat → Int32) (yt : Nat → Int32) (an : Nat) (am : Int32) (al : Int32) (ao : Int32) (au : Int32) (a1 : Nat) (a2 : Nat) (a3 : Nat) (a4 : Nat) (a5 : Nat) (a6 : Nat) (a7 : Nat) (a8 : Nat) (a9 : Nat) (a10 : Nat) (af1 : Nat → Int32) (af2 : Nat → Int32) (h_n : an ≤ 7) (h_yt : ∀ i, i < 7 → (yt i = -1 ∨ bd (yt i) 7)) : Ct l yX0_layFrom cX0_layFrom 7 none 6 0 0 D T [.ref y0, .ref a0, .int (nI 3), .int tk, .int sum] [(y0, .inr (0, [.int ys, .ref y1, .ref y2])), (y1, .inl (T 0, 7, .inl yb)), (y2, .inl (T 0, 7, .inl yt)), (a0, .inr (5, [.int (nI an), .int am, .int al, .int ao, .int au, .ref a1, .ref a2, .ref a3, .ref a4, .ref a5, .ref a6, .ref a7, .ref a8, .ref a9, .ref a10])), (a1, .inl (T 0, 10, .inl af1)), (a2, .inl (T 0, 10, .inl af2))] (q_y_lay3 T y0 a0 tk sum ys y1 y2 yb yt an am al ao au a1 a2 a3 a4 a5 a6 a7 a8 a9 a10 af1 af2) := by
  refine Ct.of (cc := cX0_layFrom) (maxL := 7) (ret := none) (by decide) (Nat.le_of_ble_eq_true rfl) ?_
  intro p e s m args below meth c A ls hC hnm V hl
  obtain ⟨hx, hb, hr, hml, hown, hts, hlocks⟩ := id hC
  generalize hH : s.heap = H at V ⊢
  clear hH
  have hl : lv_has ls 7 [(0, .ref y0), (1, .ref a0), (2, .int (nI 3)), (3, .int tk), (4, .int sum)] := hl
  generalize hlo : ([] : List Loc) = locs at V ⊢
  clear hlo
  refine lv_aload_n hx hb dX0_layFrom_0 rfl (lv_at hl 0 rfl) ?_
  refine g_get hC V (ci := 0) uwX0 0 rfl rfl 0 (by decide) w_211 rfl rfl dX0_layFrom_1 ?_
  refine lv_iconst (v := (-1)) hx hb dX0_layFrom_4 (by decide +kernel) ?_
  refine lv_icmp_eq (tgt := 18) hx hb dX0_layFrom_5 (by decide) (fun c_1 => ?_) (fun c_1 => ?_)
  · skip
    refine lv_iload_n hx hb dX0_layFrom_18 rfl (lv_at hl 2 rfl) ?_
    refine lv_aload_n hx hb dX0_layFrom_19 rfl (lv_at hl 1 rfl) ?_
    refine g_get hC V (ci := 5) uwX5 3 rfl rfl 0 (by decide) w_35 rfl rfl dX0_layFrom_20 ?_
    refine lv_icmp_ge (tgt := 32) hx hb dX0_layFrom_23 (by decide) (fun c_2 => ?_) (fun c_2 => ?_)
    · skip
      have c_2 := b_le (by omega) (by omega) c_2
      refine lv_aload_n hx hb dX0_layFrom_32 rfl (lv_at hl 0 rfl) ?_
      refine lv_iload hx hb dX0_layFrom_33 (lv_at hl 4 rfl) ?_
      refine g_put hC V (ci := 0) uwX0 tyX0 tyX0_ok nmX0 0 rfl rfl 0 (by decide) w_211 rfl rfl rfl rfl (Nat.le_of_ble_eq_true rfl) (ws' := [(y0, .inr (0, [.int sum, .ref y1, .ref y2])), (y1, .inl (T 0, 7, .inl yb)), (y2, .inl (T 0, 7, .inl yt)), (a0, .inr (5, [.int (nI an), .int am, .int al, .int ao, .int au, .ref a1, .ref a2, .ref a3, .ref a4, .ref a5, .ref a6, .ref a7, .ref a8, .ref a9, .ref a10])), (a1, .inl (T 0, 10, .inl af1)), (a2, .inl (T 0, 10, .inl af2))]) rfl dX0_layFrom_35 (fun H locs V => ?_)
      refine lv_aload_n hx hb dX0_layFrom_38 rfl (lv_at hl 0 rfl) ?_
      refine g_get hC V (ci := 0) uwX0 0 rfl rfl 2 (by decide) w_215 rfl rfl dX0_layFrom_39 ?_
      refine lv_iconst (v := (nI 0)) hx hb dX0_layFrom_42 (by decide +kernel) ?_
      refine lv_aload_n hx hb dX0_layFrom_43 rfl (lv_at hl 0 rfl) ?_
      refine g_get hC V (ci := 0) uwX0 0 rfl rfl 1 (by decide) w_213 rfl rfl dX0_layFrom_44 ?_
      refine lv_iconst (v := (nI 0)) hx hb dX0_layFrom_47 (by decide +kernel) ?_
      refine lv_bipush (v := (nI 7)) hx hb dX0_layFrom_48 (by decide +kernel) ?_
      refine g_copyi hC V hl.1 w_808 w_672 w_671 w_17 2 1 rfl rfl (by decide +kernel) (by decide +kernel) (Nat.le_of_ble_eq_true rfl) (Nat.le_of_ble_eq_true rfl) (Nat.le_of_ble_eq_true rfl) dX0_layFrom_50 (fun g_3 H locs V => ?_)
      have V : gW D T A s [(y0, .inr (0, [.int sum, .ref y1, .ref y2])), (y1, .inl (T 0, 7, .inl g_3)), (y2, .inl (T 0, 7, .inl yt)), (a0, .inr (5, [.int (nI an), .int am, .int al, .int ao, .int au, .ref a1, .ref a2, .ref a3, .ref a4, .ref a5, .ref a6, .ref a7, .ref a8, .ref a9, .ref a10])), (a1, .inl (T 0, 10, .inl af1)), (a2, .inl (T 0, 10, .inl af2))] H locs := V
      exact g_vret (Qr := (q_y_lay3 T y0 a0 tk sum ys y1 y2 yb yt an am al ao au a1 a2 a3 a4 a5 a6 a7 a8 a9 a10 af1 af2)) hC V ⟨(Nat.le_of_ble_eq_true rfl), (Nat.le_of_ble_eq_true rfl)⟩ ⟨sum, g_3, yt, rfl, rfl, (by first | assumption | omega)⟩ dX0_layFrom_53
    · skip
      have c_2 := b_nle (by omega) (by omega) c_2
      refine lv_iload_n hx hb dX0_layFrom_26 rfl (lv_at hl 2 rfl) ?_
      refine lv_bipush (v := (nI 7)) hx hb dX0_layFrom_27 (by decide +kernel) ?_
      refine lv_icmp_lt (tgt := 54) hx hb dX0_layFrom_29 (by decide) (fun _ => ?_) (fun c => absurd (show (nI 3) < (nI 7) by first | rfl | decide +kernel) c)
      refine lv_iconst (v := (nI 0)) hx hb dX0_layFrom_54 (by decide +kernel) ?_
      refine lv_istore (lv' := [(5, .int (nI 0)), (0, .ref y0), (1, .ref a0), (2, .int (nI 3)), (3, .int tk), (4, .int sum)]) hx hb dX0_layFrom_55 hl (by decide) rfl (fun ls hl => ?_)
      have L_4 : ∀ (fu : Nat) (k57 : Nat) (bv : Int32) (ga : Nat → Int32) (gb : Nat → Int32), k57 ≤ an → (∀ i, i < 7 → (gb i = -1 ∨ bd (gb i) 7)) → an - k57 < fu → ∀ (H : Heap) (locs : List Loc) (ls : Array Slot), gW D T A s [(y0, .inr (0, [.int bv, .ref y1, .ref y2])), (y1, .inl (T 0, 7, .inl ga)), (y2, .inl (T 0, 7, .inl gb)), (a0, .inr (5, [.int (nI an), .int am, .int al, .int ao, .int au, .ref a1, .ref a2, .ref a3, .ref a4, .ref a5, .ref a6, .ref a7, .ref a8, .ref a9, .ref a10])), (a1, .inl (T 0, 10, .inl af1)), (a2, .inl (T 0, 10, .inl af2))] H locs → lv_has ls 7 [(5, .int (nI k57)), (0, .ref y0), (1, .ref a0), (2, .int (nI 3)), (3, .int tk), (4, .int sum)] → W p l e (rmD 6 0 0) s m args below meth c H locs 0 0 (MQ below (gQ D A (q_y_lay3 T y0 a0 tk sum ys y1 y2 yb yt an am al ao au a1 a2 a3 a4 a5 a6 a7 a8 a9 a10 af1 af2)) args s 0 0 A) (F0 m 57 ls []) := by
        intro fu_57
        induction fu_57 with
        | zero => intro k57 bv ga gb hk57 hgb hmu; exact absurd hmu (Nat.not_lt_zero _)
        | succ fu_57 ih_57 =>
          intro k57 bv ga gb hk57 hgb hmu_57 H locs ls V hl
          refine lv_iload hx hb dX0_layFrom_57 (lv_at hl 0 rfl) ?_
          refine lv_aload_n hx hb dX0_layFrom_59 rfl (lv_at hl 2 rfl) ?_
          refine g_get hC V (ci := 5) uwX5 3 rfl rfl 0 (by decide) w_35 rfl rfl dX0_layFrom_60 ?_
          refine lv_icmp_ge (tgt := 145) hx hb dX0_layFrom_63 (by decide) (fun c_5 => ?_) (fun c_5 => ?_)
          · skip
            have c_5 := b_le (by omega) (by omega) c_5
            exact g_vret (Qr := (q_y_lay3 T y0 a0 tk sum ys y1 y2 yb yt an am al ao au a1 a2 a3 a4 a5 a6 a7 a8 a9 a10 af1 af2)) hC V ⟨(Nat.le_of_ble_eq_true rfl), (Nat.le_of_ble_eq_true rfl)⟩ ⟨bv, ga, gb, rfl, rfl, (by first | assumption | omega)⟩ dX0_layFrom_145
          · skip
            have c_5 := b_nle (by omega) (by omega) c_5
            refine lv_iload_n hx hb dX0_layFrom_66 rfl (lv_at hl 4 rfl) ?_
            refine lv_iload hx hb dX0_layFrom_67 (lv_at hl 0 rfl) ?_
            refine g_callSNU (nA := 2) (host := RX7) hC V hl.1 (c_isIn l D T tk (nI k57)) w_472 (List.mem_of_getElem? (i := 7) rfl) w_2 w_471 (by decide +kernel) rfl ⟨(Nat.le_of_ble_eq_true rfl), (Nat.le_of_ble_eq_true rfl)⟩ [] rfl rfl (Nat.le_of_ble_eq_true rfl) dX0_layFrom_69 ⟨(Nat.le_of_ble_eq_true rfl), (Nat.le_of_ble_eq_true rfl)⟩ rfl (fun r w1 H locs hQ V => ?_)
            rcases hQ with ⟨rfl, rfl⟩ | ⟨rfl, rfl⟩
            · have V : gW D T A s [(y0, .inr (0, [.int bv, .ref y1, .ref y2])), (y1, .inl (T 0, 7, .inl ga)), (y2, .inl (T 0, 7, .inl gb)), (a0, .inr (5, [.int (nI an), .int am, .int al, .int ao, .int au, .ref a1, .ref a2, .ref a3, .ref a4, .ref a5, .ref a6, .ref a7, .ref a8, .ref a9, .ref a10])), (a1, .inl (T 0, 10, .inl af1)), (a2, .inl (T 0, 10, .inl af2))] H locs := V _ [] rfl rfl rfl (by decide +kernel) rfl
              show W p l e _ s m args below meth c H locs _ _ _ (F0 m 72 ls [.int (nI 1)])
              refine lv_if_ne (tgt := 139) hx hb dX0_layFrom_72 (by decide) (fun _ => ?_) (fun c => absurd (show (nI 1) = 0 from c) (by decide +kernel))
              refine lv_iinc (v := (nI (k57 + 1))) (lv' := [(5, .int (nI (k57 + 1))), (0, .ref y0), (1, .ref a0), (2, .int (nI 3)), (3, .int tk), (4, .int sum)]) hx hb dX0_layFrom_139 hl (k := 0) rfl (nI_1 _) (by decide) rfl (fun ls hl => ?_)
              refine lv_goto (tgt := 57) hx hb dX0_layFrom_142 (by decide) ?_
              exact ih_57 (k57 + 1) bv ga gb (by omega) (by assumption) (by omega) _ _ _ V (lv_sub hl [0, 1, 2, 3, 4, 5] rfl)
            · have V : gW D T A s [(y0, .inr (0, [.int bv, .ref y1, .ref y2])), (y1, .inl (T 0, 7, .inl ga)), (y2, .inl (T 0, 7, .inl gb)), (a0, .inr (5, [.int (nI an), .int am, .int al, .int ao, .int au, .ref a1, .ref a2, .ref a3, .ref a4, .ref a5, .ref a6, .ref a7, .ref a8, .ref a9, .ref a10])), (a1, .inl (T 0, 10, .inl af1)), (a2, .inl (T 0, 10, .inl af2))] H locs := V _ [] rfl rfl rfl (by decide +kernel) rfl
              show W p l e _ s m args below meth c H locs _ _ _ (F0 m 72 ls [.int (nI 0)])
              refine lv_if_ne (tgt := 139) hx hb dX0_layFrom_72 (by decide) (fun c => absurd (show (nI 0) = 0 by decide +kernel) c) (fun _ => ?_)
              refine lv_aload_n hx hb dX0_layFrom_75 rfl (lv_at hl 1 rfl) ?_
              refine lv_aload_n hx hb dX0_layFrom_76 rfl (lv_at hl 2 rfl) ?_
              refine lv_iload_n hx hb dX0_layFrom_77 rfl (lv_at hl 3 rfl) ?_
              refine lv_iload hx hb dX0_layFrom_78 (lv_at hl 0 rfl) ?_
              refine g_callVU (nA := 3) hC V hl.1 (y_closes l D T y0 a0 3 k57 bv y1 y2 gb an am al ao au a1 a2 a3 a4 a5 a6 a7 a8 a9 a10 (by first | assumption | omega) hgb (by first | assumption | omega) (by first | assumption | omega)) w_810 w_812 w_s32 w_7 w_813 (by decide +kernel) rfl ⟨(Nat.le_of_ble_eq_true rfl), (Nat.le_of_ble_eq_true rfl)⟩ 0 (ci := 0) rfl rfl [0, 2, 3] rfl rfl (Nat.le_of_ble_eq_true rfl) dX0_layFrom_80 ⟨(Nat.le_of_ble_eq_true rfl), (Nat.le_of_ble_eq_true rfl)⟩ rfl (fun r w1 H locs hQ V => ?_)
              rcases hQ with ⟨rfl, rfl⟩ | ⟨rfl, rfl⟩
              · have V : gW D T A s [(y0, .inr (0, [.int bv, .ref y1, .ref y2])), (y1, .inl (T 0, 7, .inl ga)), (y2, .inl (T 0, 7, .inl gb)), (a0, .inr (5, [.int (nI an), .int am, .int al, .int ao, .int au, .ref a1, .ref a2, .ref a3, .ref a4, .ref a5, .ref a6, .ref a7, .ref a8, .ref a9, .ref a10])), (a1, .inl (T 0, 10, .inl af1)), (a2, .inl (T 0, 10, .inl af2))] H locs := V _ [0, 1, 0] rfl rfl rfl (by decide +kernel) rfl
                show W p l e _ s m args below meth c H locs _ _ _ (F0 m 83 ls [.int (nI 1)])
                refine lv_if_ne (tgt := 139) hx hb dX0_layFrom_83 (by decide) (fun _ => ?_) (fun c => absurd (show (nI 1) = 0 from c) (by decide +kernel))
                refine lv_iinc (v := (nI (k57 + 1))) (lv' := [(5, .int (nI (k57 + 1))), (0, .ref y0), (1, .ref a0), (2, .int (nI 3)), (3, .int tk), (4, .int sum)]) hx hb dX0_layFrom_139 hl (k := 0) rfl (nI_1 _) (by decide) rfl (fun ls hl => ?_)
                refine lv_goto (tgt := 57) hx hb dX0_layFrom_142 (by decide) ?_
                exact ih_57 (k57 + 1) bv ga gb (by omega) (by assumption) (by omega) _ _ _ V (lv_sub hl [0, 1, 2, 3, 4, 5] rfl)
              · have V : gW D T A s [(y0, .inr (0, [.int bv, .ref y1, .ref y2])), (y1, .inl (T 0, 7, .inl ga)), (y2, .inl (T 0, 7, .inl gb)), (a0, .inr (5, [.int (nI an), .int am, .int al, .int ao, .int au, .ref a1, .ref a2, .ref a3, .ref a4, .ref a5, .ref a6, .ref a7, .ref a8, .ref a9, .ref a10])), (a1, .inl (T 0, 10, .inl af1)), (a2, .inl (T 0, 10, .inl af2))] H locs := V _ [0, 1, 0] rfl rfl rfl (by decide +kernel) rfl
                show W p l e _ s m args below meth c H locs _ _ _ (F0 m 83 ls [.int (nI 0)])
                refine lv_if_ne (tgt := 139) hx hb dX0_layFrom_83 (by decide) (fun c => absurd (show (nI 0) = 0 by decide +kernel) c) (fun _ => ?_)
                refine lv_aload_n hx hb dX0_layFrom_86 rfl (lv_at hl 1 rfl) ?_
                refine g_get hC V (ci := 0) uwX0 0 rfl rfl 2 (by decide) w_215 rfl rfl dX0_layFrom_87 ?_
                refine lv_iload_n hx hb dX0_layFrom_90 rfl (lv_at hl 3 rfl) ?_
                refine lv_iload hx hb dX0_layFrom_91 (lv_at hl 0 rfl) ?_
                refine g_iast hC V 2 rfl (vp_in_nI (by decide) (by decide)) (f' := (upd gb 3 (nI k57))) (by rw [nI_clamp (by decide)]) (ws' := [(y0, .inr (0, [.int bv, .ref y1, .ref y2])), (y1, .inl (T 0, 7, .inl ga)), (y2, .inl (T 0, 7, .inl (upd gb 3 (nI k57)))), (a0, .inr (5, [.int (nI an), .int am, .int al, .int ao, .int au, .ref a1, .ref a2, .ref a3, .ref a4, .ref a5, .ref a6, .ref a7, .ref a8, .ref a9, .ref a10])), (a1, .inl (T 0, 10, .inl af1)), (a2, .inl (T 0, 10, .inl af2))]) rfl dX0_layFrom_93 (fun H locs V => ?_)
                refine lv_aload_n hx hb dX0_layFrom_94 rfl (lv_at hl 2 rfl) ?_
                refine g_get hC V (ci := 5) uwX5 3 rfl rfl 5 (by decide) w_52 rfl rfl dX0_layFrom_95 ?_
                refine lv_iload_n hx hb dX0_layFrom_98 rfl (lv_at hl 3 rfl) ?_
                refine g_iald hC V 4 rfl (vp_in_nI (by decide) (by decide)) (v := (af1 3)) (congrArg _ (nI_clamp (by decide))) dX0_layFrom_99 ?_
                refine lv_aload_n hx hb dX0_layFrom_100 rfl (lv_at hl 2 rfl) ?_
                refine g_get hC V (ci := 5) uwX5 3 rfl rfl 6 (by decide) w_58 rfl rfl dX0_layFrom_101 ?_
                refine lv_iload hx hb dX0_layFrom_104 (lv_at hl 0 rfl) ?_
                refine g_iald hC V 5 rfl (vp_in_nI (by omega) (by omega)) (v := (af2 k57)) (congrArg _ (nI_clamp (by omega))) dX0_layFrom_106 ?_
                refine lv_isub hx hb dX0_layFrom_107 ?_
                refine va_mabs hx hb (hml.trans hl.1.symm) hown (hts _ w_814) (hts _ w_815) (hts _ w_10) (hts _ w_816) (Nat.le_of_ble_eq_true rfl) (Nat.le_of_ble_eq_true rfl) (Nat.le_of_ble_eq_true rfl) (Nat.le_of_ble_eq_true rfl) dX0_layFrom_108 ?_
                refine lv_topi (fun x_6 ex_6 => ?_)
                refine lv_istore (lv' := [(6, .int x_6), (5, .int (nI k57)), (0, .ref y0), (1, .ref a0), (2, .int (nI 3)), (3, .int tk), (4, .int sum)]) hx hb dX0_layFrom_111 hl (by decide) rfl (fun ls hl => ?_)
                refine lv_aload_n hx hb dX0_layFrom_113 rfl (lv_at hl 2 rfl) ?_
                refine lv_aload_n hx hb dX0_layFrom_114 rfl (lv_at hl 3 rfl) ?_
                refine lv_iload_n hx hb dX0_layFrom_115 rfl (lv_at hl 4 rfl) ?_
                refine lv_iconst (v := (nI 1)) hx hb dX0_layFrom_116 (by decide +kernel) ?_
                refine lv_iadd hx hb dX0_layFrom_117 ?_
                refine g_vi (y := (nI 4)) (by decide +kernel) ?_
                refine lv_iload_n hx hb dX0_layFrom_118 rfl (lv_at hl 5 rfl) ?_
                refine lv_iconst (v := (nI 1)) hx hb dX0_layFrom_119 (by decide +kernel) ?_
                refine lv_iload hx hb dX0_layFrom_120 (lv_at hl 1 rfl) ?_
                refine lv_ishl hx hb dX0_layFrom_122 ?_
                refine lv_ior hx hb dX0_layFrom_123 ?_
                refine lv_iload hx hb dX0_layFrom_124 (lv_at hl 6 rfl) ?_
                refine lv_iload hx hb dX0_layFrom_126 (lv_at hl 0 rfl) ?_
                refine lv_iadd hx hb dX0_layFrom_128 ?_
                refine g_callV (wr := []) (nA := 4) hC V hl.1 (y_lay4 l D T y0 a0 (tk ||| ((nI 1) <<< ((nI k57) &&& 31))) (sum + x_6) bv y1 y2 ga (upd gb 3 (nI k57)) an am al ao au a1 a2 a3 a4 a5 a6 a7 a8 a9 a10 af1 af2 (by first | assumption | omega) (up_all (p := fun x => x = -1 ∨ bd x 7) hgb (fun _ => Or.inr (bd_nI (by omega))))) w_804 w_806 w_s31 w_7 w_807 (by decide +kernel) rfl ⟨(Nat.le_of_ble_eq_true rfl), (Nat.le_of_ble_eq_true rfl)⟩ 0 (ci := 0) rfl rfl [0, 1, 2, 3, 4, 5] [] rfl rfl rfl rfl (by decide) (Nat.le_of_ble_eq_true rfl) dX0_layFrom_129 ⟨(Nat.le_of_ble_eq_true rfl), (Nat.le_of_ble_eq_true rfl)⟩ rfl (fun r w1 H locs hQ V => ?_)
                obtain ⟨bs_7, g1_8, g2_9, rfl, rfl, f_10⟩ := hQ
                have V : gW D T A s [(y0, .inr (0, [.int bs_7, .ref y1, .ref y2])), (y1, .inl (T 0, 7, .inl g1_8)), (y2, .inl (T 0, 7, .inl g2_9)), (a0, .inr (5, [.int (nI an), .int am, .int al, .int ao, .int au, .ref a1, .ref a2, .ref a3, .ref a4, .ref a5, .ref a6, .ref a7, .ref a8, .ref a9, .ref a10])), (a1, .inl (T 0, 10, .inl af1)), (a2, .inl (T 0, 10, .inl af2))] H locs := V
                show W p l e _ s m args below meth c H locs _ _ _ (F0 m 132 ls [])
                have hq := up_all (p := fun x => x = -1 ∨ bd x 7) (k := 3) (x := -1) f_10 (fun _ => Or.inl rfl)
                refine lv_aload_n hx hb dX0_layFrom_132 rfl (lv_at hl 2 rfl) ?_
                refine g_get hC V (ci := 0) uwX0 0 rfl rfl 2 (by decide) w_215 rfl rfl dX0_layFrom_133 ?_
                refine lv_iload_n hx hb dX0_layFrom_136 rfl (lv_at hl 4 rfl) ?_
                refine lv_iconst (v := (-1)) hx hb dX0_layFrom_137 (by decide +kernel) ?_
                refine g_iast hC V 2 rfl (vp_in_nI (by decide) (by decide)) (f' := (upd g2_9 3 (-1))) (by rw [nI_clamp (by decide)]) (ws' := [(y0, .inr (0, [.int bs_7, .ref y1, .ref y2])), (y1, .inl (T 0, 7, .inl g1_8)), (y2, .inl (T 0, 7, .inl (upd g2_9 3 (-1)))), (a0, .inr (5, [.int (nI an), .int am, .int al, .int ao, .int au, .ref a1, .ref a2, .ref a3, .ref a4, .ref a5, .ref a6, .ref a7, .ref a8, .ref a9, .ref a10])), (a1, .inl (T 0, 10, .inl af1)), (a2, .inl (T 0, 10, .inl af2))]) rfl dX0_layFrom_138 (fun H locs V => ?_)
                refine lv_iinc (v := (nI (k57 + 1))) (lv' := [(5, .int (nI (k57 + 1))), (6, .int x_6), (0, .ref y0), (1, .ref a0), (2, .int (nI 3)), (3, .int tk), (4, .int sum)]) hx hb dX0_layFrom_139 hl (k := 1) rfl (nI_1 _) (by decide) rfl (fun ls hl => ?_)
                refine lv_goto (tgt := 57) hx hb dX0_layFrom_142 (by decide) ?_
                exact ih_57 (k57 + 1) bs_7 g1_8 (upd g2_9 3 (-1)) (by omega) (by assumption) (by omega) _ _ _ V (lv_sub hl [0, 2, 3, 4, 5, 6] rfl)
      exact L_4 _ 0 ys yb yt (by omega) h_yt (Nat.lt_succ_self _) _ _ _ V (lv_sub hl [0, 1, 2, 3, 4, 5] rfl)
  · skip
    refine lv_iload hx hb dX0_layFrom_8 (lv_at hl 4 rfl) ?_
    refine lv_aload_n hx hb dX0_layFrom_10 rfl (lv_at hl 0 rfl) ?_
    refine g_get hC V (ci := 0) uwX0 0 rfl rfl 0 (by decide) w_211 rfl rfl dX0_layFrom_11 ?_
    refine lv_icmp_lt (tgt := 18) hx hb dX0_layFrom_14 (by decide) (fun c_11 => ?_) (fun c_11 => ?_)
    · skip
      refine lv_iload_n hx hb dX0_layFrom_18 rfl (lv_at hl 2 rfl) ?_
      refine lv_aload_n hx hb dX0_layFrom_19 rfl (lv_at hl 1 rfl) ?_
      refine g_get hC V (ci := 5) uwX5 3 rfl rfl 0 (by decide) w_35 rfl rfl dX0_layFrom_20 ?_
      refine lv_icmp_ge (tgt := 32) hx hb dX0_layFrom_23 (by decide) (fun c_12 => ?_) (fun c_12 => ?_)
      · skip
        have c_12 := b_le (by omega) (by omega) c_12
        refine lv_aload_n hx hb dX0_layFrom_32 rfl (lv_at hl 0 rfl) ?_
        refine lv_iload hx hb dX0_layFrom_33 (lv_at hl 4 rfl) ?_
        refine g_put hC V (ci := 0) uwX0 tyX0 tyX0_ok nmX0 0 rfl rfl 0 (by decide) w_211 rfl rfl rfl rfl (Nat.le_of_ble_eq_true rfl) (ws' := [(y0, .inr (0, [.int sum, .ref y1, .ref y2])), (y1, .inl (T 0, 7, .inl yb)), (y2, .inl (T 0, 7, .inl yt)), (a0, .inr (5, [.int (nI an), .int am, .int al, .int ao, .int au, .ref a1, .ref a2, .ref a3, .ref a4, .ref a5, .ref a6, .ref a7, .ref a8, .ref a9, .ref a10])), (a1, .inl (T 0, 10, .inl af1)), (a2, .inl (T 0, 10, .inl af2))]) rfl dX0_layFrom_35 (fun H locs V => ?_)
        refine lv_aload_n hx hb dX0_layFrom_38 rfl (lv_at hl 0 rfl) ?_
        refine g_get hC V (ci := 0) uwX0 0 rfl rfl 2 (by decide) w_215 rfl rfl dX0_layFrom_39 ?_
        refine lv_iconst (v := (nI 0)) hx hb dX0_layFrom_42 (by decide +kernel) ?_
        refine lv_aload_n hx hb dX0_layFrom_43 rfl (lv_at hl 0 rfl) ?_
        refine g_get hC V (ci := 0) uwX0 0 rfl rfl 1 (by decide) w_213 rfl rfl dX0_layFrom_44 ?_
        refine lv_iconst (v := (nI 0)) hx hb dX0_layFrom_47 (by decide +kernel) ?_
        refine lv_bipush (v := (nI 7)) hx hb dX0_layFrom_48 (by decide +kernel) ?_
        refine g_copyi hC V hl.1 w_808 w_672 w_671 w_17 2 1 rfl rfl (by decide +kernel) (by decide +kernel) (Nat.le_of_ble_eq_true rfl) (Nat.le_of_ble_eq_true rfl) (Nat.le_of_ble_eq_true rfl) dX0_layFrom_50 (fun g_13 H locs V => ?_)
        have V : gW D T A s [(y0, .inr (0, [.int sum, .ref y1, .ref y2])), (y1, .inl (T 0, 7, .inl g_13)), (y2, .inl (T 0, 7, .inl yt)), (a0, .inr (5, [.int (nI an), .int am, .int al, .int ao, .int au, .ref a1, .ref a2, .ref a3, .ref a4, .ref a5, .ref a6, .ref a7, .ref a8, .ref a9, .ref a10])), (a1, .inl (T 0, 10, .inl af1)), (a2, .inl (T 0, 10, .inl af2))] H locs := V
        exact g_vret (Qr := (q_y_lay3 T y0 a0 tk sum ys y1 y2 yb yt an am al ao au a1 a2 a3 a4 a5 a6 a7 a8 a9 a10 af1 af2)) hC V ⟨(Nat.le_of_ble_eq_true rfl), (Nat.le_of_ble_eq_true rfl)⟩ ⟨sum, g_13, yt, rfl, rfl, (by first | assumption | omega)⟩ dX0_layFrom_53
      · skip
        have c_12 := b_nle (by omega) (by omega) c_12
        refine lv_iload_n hx hb dX0_layFrom_26 rfl (lv_at hl 2 rfl) ?_
        refine lv_bipush (v := (nI 7)) hx hb dX0_layFrom_27 (by decide +kernel) ?_
        refine lv_icmp_lt (tgt := 54) hx hb dX0_layFrom_29 (by decide) (fun _ => ?_) (fun c => absurd (show (nI 3) < (nI 7) by first | rfl | decide +kernel) c)
        refine lv_iconst (v := (nI 0)) hx hb dX0_layFrom_54 (by decide +kernel) ?_
        refine lv_istore (lv' := [(5, .int (nI 0)), (0, .ref y0), (1, .ref a0), (2, .int (nI 3)), (3, .int tk), (4, .int sum)]) hx hb dX0_layFrom_55 hl (by decide) rfl (fun ls hl => ?_)
        have L_14 : ∀ (fu : Nat) (k57 : Nat) (bv : Int32) (ga : Nat → Int32) (gb : Nat → Int32), k57 ≤ an → (∀ i, i < 7 → (gb i = -1 ∨ bd (gb i) 7)) → an - k57 < fu → ∀ (H : Heap) (locs : List Loc) (ls : Array Slot), gW D T A s [(y0, .inr (0, [.int bv, .ref y1, .ref y2])), (y1, .inl (T 0, 7, .inl ga)), (y2, .inl (T 0, 7, .inl gb)), (a0, .inr (5, [.int (nI an), .int am, .int al, .int ao, .int au, .ref a1, .ref a2, .ref a3, .ref a4, .ref a5, .ref a6, .ref a7, .ref a8, .ref a9, .ref a10])), (a1, .inl (T 0, 10, .inl af1)), (a2, .inl (T 0, 10, .inl af2))] H locs → lv_has ls 7 [(5, .int (nI k57)), (0, .ref y0), (1, .ref a0), (2, .int (nI 3)), (3, .int tk), (4, .int sum)] → W p l e (rmD 6 0 0) s m args below meth c H locs 0 0 (MQ below (gQ D A (q_y_lay3 T y0 a0 tk sum ys y1 y2 yb yt an am al ao au a1 a2 a3 a4 a5 a6 a7 a8 a9 a10 af1 af2)) args s 0 0 A) (F0 m 57 ls []) := by
          intro fu_57
          induction fu_57 with
          | zero => intro k57 bv ga gb hk57 hgb hmu; exact absurd hmu (Nat.not_lt_zero _)
          | succ fu_57 ih_57 =>
            intro k57 bv ga gb hk57 hgb hmu_57 H locs ls V hl
            refine lv_iload hx hb dX0_layFrom_57 (lv_at hl 0 rfl) ?_
            refine lv_aload_n hx hb dX0_layFrom_59 rfl (lv_at hl 2 rfl) ?_
            refine g_get hC V (ci := 5) uwX5 3 rfl rfl 0 (by decide) w_35 rfl rfl dX0_layFrom_60 ?_
            refine lv_icmp_ge (tgt := 145) hx hb dX0_layFrom_63 (by decide) (fun c_15 => ?_) (fun c_15 => ?_)
            · skip
              have c_15 := b_le (by omega) (by omega) c_15
              exact g_vret (Qr := (q_y_lay3 T y0 a0 tk sum ys y1 y2 yb yt an am al ao au a1 a2 a3 a4 a5 a6 a7 a8 a9 a10 af1 af2)) hC V ⟨(Nat.le_of_ble_eq_true rfl), (Nat.le_of_ble_eq_true rfl)⟩ ⟨bv, ga, gb, rfl, rfl, (by first | assumption | omega)⟩ dX0_layFrom_145
            · skip
              have c_15 := b_nle (by omega) (by omega) c_15
              refine lv_iload_n hx hb dX0_layFrom_66 rfl (lv_at hl 4 rfl) ?_
              refine lv_iload hx hb dX0_layFrom_67 (lv_at hl 0 rfl) ?_
              refine g_callSNU (nA := 2) (host := RX7) hC V hl.1 (c_isIn l D T tk (nI k57)) w_472 (List.mem_of_getElem? (i := 7) rfl) w_2 w_471 (by decide +kernel) rfl ⟨(Nat.le_of_ble_eq_true rfl), (Nat.le_of_ble_eq_true rfl)⟩ [] rfl rfl (Nat.le_of_ble_eq_true rfl) dX0_layFrom_69 ⟨(Nat.le_of_ble_eq_true rfl), (Nat.le_of_ble_eq_true rfl)⟩ rfl (fun r w1 H locs hQ V => ?_)
              rcases hQ with ⟨rfl, rfl⟩ | ⟨rfl, rfl⟩
              · have V : gW D T A s [(y0, .inr (0, [.int bv, .ref y1, .ref y2])), (y1, .inl (T 0, 7, .inl ga)), (y2, .inl (T 0, 7, .inl gb)), (a0, .inr (5, [.int (nI an), .int am, .int al, .int ao, .int au, .ref a1, .ref a2, .ref a3, .ref a4, .ref a5, .ref a6, .ref a7, .ref a8, .ref a9, .ref a10])), (a1, .inl (T 0, 10, .inl af1)), (a2, .inl (T 0, 10, .inl af2))] H locs := V _ [] rfl rfl rfl (by decide +kernel) rfl
                show W p l e _ s m args below meth c H locs _ _ _ (F0 m 72 ls [.int (nI 1)])
                refine lv_if_ne (tgt := 139) hx hb dX0_layFrom_72 (by decide) (fun _ => ?_) (fun c => absurd (show (nI 1) = 0 from c) (by decide +kernel))
                refine lv_iinc (v := (nI (k57 + 1))) (lv' := [(5, .int (nI (k57 + 1))), (0, .ref y0), (1, .ref a0), (2, .int (nI 3)), (3, .int tk), (4, .int sum)]) hx hb dX0_layFrom_139 hl (k := 0) rfl (nI_1 _) (by decide) rfl (fun ls hl => ?_)
                refine lv_goto (tgt := 57) hx hb dX0_layFrom_142 (by decide) ?_
                exact ih_57 (k57 + 1) bv ga gb (by omega) (by assumption) (by omega) _ _ _ V (lv_sub hl [0, 1, 2, 3, 4, 5] rfl)
              · have V : gW D T A s [(y0, .inr (0, [.int bv, .ref y1, .ref y2])), (y1, .inl (T 0, 7, .inl ga)), (y2, .inl (T 0, 7, .inl gb)), (a0, .inr (5, [.int (nI an), .int am, .int al, .int ao, .int au, .ref a1, .ref a2, .ref a3, .ref a4, .ref a5, .ref a6, .ref a7, .ref a8, .ref a9, .ref a10])), (a1, .inl (T 0, 10, .inl af1)), (a2, .inl (T 0, 10, .inl af2))] H locs := V _ [] rfl rfl rfl (by decide +kernel) rfl
                show W p l e _ s m args below meth c H locs _ _ _ (F0 m 72 ls [.int (nI 0)])
                refine lv_if_ne (tgt := 139) hx hb dX0_layFrom_72 (by decide) (fun c => absurd (show (nI 0) = 0 by decide +kernel) c) (fun _ => ?_)
                refine lv_aload_n hx hb dX0_layFrom_75 rfl (lv_at hl 1 rfl) ?_
                refine lv_aload_n hx hb dX0_layFrom_76 rfl (lv_at hl 2 rfl) ?_
                refine lv_iload_n hx hb dX0_layFrom_77 rfl (lv_at hl 3 rfl) ?_
                refine lv_iload hx hb dX0_layFrom_78 (lv_at hl 0 rfl) ?_
                refine g_callVU (nA := 3) hC V hl.1 (y_closes l D T y0 a0 3 k57 bv y1 y2 gb an am al ao au a1 a2 a3 a4 a5 a6 a7 a8 a9 a10 (by first | assumption | omega) hgb (by first | assumption | omega) (by first | assumption | omega)) w_810 w_812 w_s32 w_7 w_813 (by decide +kernel) rfl ⟨(Nat.le_of_ble_eq_true rfl), (Nat.le_of_ble_eq_true rfl)⟩ 0 (ci := 0) rfl rfl [0, 2, 3] rfl rfl (Nat.le_of_ble_eq_true rfl) dX0_layFrom_80 ⟨(Nat.le_of_ble_eq_true rfl), (Nat.le_of_ble_eq_true rfl)⟩ rfl (fun r w1 H locs hQ V => ?_)
                rcases hQ with ⟨rfl, rfl⟩ | ⟨rfl, rfl⟩
                · have V : gW D T A s [(y0, .inr (0, [.int bv, .ref y1, .ref y2])), (y1, .inl (T 0, 7, .inl ga)), (y2, .inl (T 0, 7, .inl gb)), (a0, .inr (5, [.int (nI an), .int am, .int al, .int ao, .int au, .ref a1, .ref a2, .ref a3, .ref a4, .ref a5, .ref a6, .ref a7, .ref a8, .ref a9, .ref a10])), (a1, .inl (T 0, 10, .inl af1)), (a2, .inl (T 0, 10, .inl af2))] H locs := V _ [0, 1, 0] rfl rfl rfl (by decide +kernel) rfl
                  show W p l e _ s m args below meth c H locs _ _ _ (F0 m 83 ls [.int (nI 1)])
                  refine lv_if_ne (tgt := 139) hx hb dX0_layFrom_83 (by decide) (fun _ => ?_) (fun c => absurd (show (nI 1) = 0 from c) (by decide +kernel))
                  refine lv_iinc (v := (nI (k57 + 1))) (lv' := [(5, .int (nI (k57 + 1))), (0, .ref y0), (1, .ref a0), (2, .int (nI 3)), (3, .int tk), (4, .int sum)]) hx hb dX0_layFrom_139 hl (k := 0) rfl (nI_1 _) (by decide) rfl (fun ls hl => ?_)
                  refine lv_goto (tgt := 57) hx hb dX0_layFrom_142 (by decide) ?_
                  exact ih_57 (k57 + 1) bv ga gb (by omega) (by assumption) (by omega) _ _ _ V (lv_sub hl [0, 1, 2, 3, 4, 5] rfl)
                · have V : gW D T A s [(y0, .inr (0, [.int bv, .ref y1, .ref y2])), (y1, .inl (T 0, 7, .inl ga)), (y2, .inl (T 0, 7, .inl gb)), (a0, .inr (5, [.int (nI an), .int am, .int al, .int ao, .int au, .ref a1, .ref a2, .ref a3, .ref a4, .ref a5, .ref a6, .ref a7, .ref a8, .ref a9, .ref a10])), (a1, .inl (T 0, 10, .inl af1)), (a2, .inl (T 0, 10, .inl af2))] H locs := V _ [0, 1, 0] rfl rfl rfl (by decide +kernel) rfl
                  show W p l e _ s m args below meth c H locs _ _ _ (F0 m 83 ls [.int (nI 0)])
                  refine lv_if_ne (tgt := 139) hx hb dX0_layFrom_83 (by decide) (fun c => absurd (show (nI 0) = 0 by decide +kernel) c) (fun _ => ?_)
                  refine lv_aload_n hx hb dX0_layFrom_86 rfl (lv_at hl 1 rfl) ?_
                  refine g_get hC V (ci := 0) uwX0 0 rfl rfl 2 (by decide) w_215 rfl rfl dX0_layFrom_87 ?_
                  refine lv_iload_n hx hb dX0_layFrom_90 rfl (lv_at hl 3 rfl) ?_
                  refine lv_iload hx hb dX0_layFrom_91 (lv_at hl 0 rfl) ?_
                  refine g_iast hC V 2 rfl (vp_in_nI (by decide) (by decide)) (f' := (upd gb 3 (nI k57))) (by rw [nI_clamp (by decide)]) (ws' := [(y0, .inr (0, [.int bv, .ref y1, .ref y2])), (y1, .inl (T 0, 7, .inl ga)), (y2, .inl (T 0, 7, .inl (upd gb 3 (nI k57)))), (a0, .inr (5, [.int (nI an), .int am, .int al, .int ao, .int au, .ref a1, .ref a2, .ref a3, .ref a4, .ref a5, .ref a6, .ref a7, .ref a8, .ref a9, .ref a10])), (a1, .inl (T 0, 10, .inl af1)), (a2, .inl (T 0, 10, .inl af2))]) rfl dX0_layFrom_93 (fun H locs V => ?_)
                  refine lv_aload_n hx hb dX0_layFrom_94 rfl (lv_at hl 2 rfl) ?_
                  refine g_get hC V (ci := 5) uwX5 3 rfl rfl 5 (by decide) w_52 rfl rfl dX0_layFrom_95 ?_
                  refine lv_iload_n hx hb dX0_layFrom_98 rfl (lv_at hl 3 rfl) ?_
                  refine g_iald hC V 4 rfl (vp_in_nI (by decide) (by decide)) (v := (af1 3)) (congrArg _ (nI_clamp (by decide))) dX0_layFrom_99 ?_
                  refine lv_aload_n hx hb dX0_layFrom_100 rfl (lv_at hl 2 rfl) ?_
                  refine g_get hC V (ci := 5) uwX5 3 rfl rfl 6 (by decide) w_58 rfl rfl dX0_layFrom_101 ?_
                  refine lv_iload hx hb dX0_layFrom_104 (lv_at hl 0 rfl) ?_
                  refine g_iald hC V 5 rfl (vp_in_nI (by omega) (by omega)) (v := (af2 k57)) (congrArg _ (nI_clamp (by omega))) dX0_layFrom_106 ?_
                  refine lv_isub hx hb dX0_layFrom_107 ?_
                  refine va_mabs hx hb (hml.trans hl.1.symm) hown (hts _ w_814) (hts _ w_815) (hts _ w_10) (hts _ w_816) (Nat.le_of_ble_eq_true rfl) (Nat.le_of_ble_eq_true rfl) (Nat.le_of_ble_eq_true rfl) (Nat.le_of_ble_eq_true rfl) dX0_layFrom_108 ?_
                  refine lv_topi (fun x_16 ex_16 => ?_)
                  refine lv_istore (lv' := [(6, .int x_16), (5, .int (nI k57)), (0, .ref y0), (1, .ref a0), (2, .int (nI 3)), (3, .int tk), (4, .int sum)]) hx hb dX0_layFrom_111 hl (by decide) rfl (fun ls hl => ?_)
                  refine lv_aload_n hx hb dX0_layFrom_113 rfl (lv_at hl 2 rfl) ?_
                  refine lv_aload_n hx hb dX0_layFrom_114 rfl (lv_at hl 3 rfl) ?_
                  refine lv_iload_n hx hb dX0_layFrom_115 rfl (lv_at hl 4 rfl) ?_
                  refine lv_iconst (v := (nI 1)) hx hb dX0_layFrom_116 (by decide +kernel) ?_
                  refine lv_iadd hx hb dX0_layFrom_117 ?_
                  refine g_vi (y := (nI 4)) (by decide +kernel) ?_
                  refine lv_iload_n hx hb dX0_layFrom_118 rfl (lv_at hl 5 rfl) ?_
                  refine lv_iconst (v := (nI 1)) hx hb dX0_layFrom_119 (by decide +kernel) ?_
                  refine lv_iload hx hb dX0_layFrom_120 (lv_at hl 1 rfl) ?_
                  refine lv_ishl hx hb dX0_layFrom_122 ?_
                  refine lv_ior hx hb dX0_layFrom_123 ?_
                  refine lv_iload hx hb dX0_layFrom_124 (lv_at hl 6 rfl) ?_
                  refine lv_iload hx hb dX0_layFrom_126 (lv_at hl 0 rfl) ?_
                  refine lv_iadd hx hb dX0_layFrom_128 ?_
                  refine g_callV (wr := []) (nA := 4) hC V hl.1 (y_lay4 l D T y0 a0 (tk ||| ((nI 1) <<< ((nI k57) &&& 31))) (sum + x_16) bv y1 y2 ga (upd gb 3 (nI k57)) an am al ao au a1 a2 a3 a4 a5 a6 a7 a8 a9 a10 af1 af2 (by first | assumption | omega) (up_all (p := fun x => x = -1 ∨ bd x 7) hgb (fun _ => Or.inr (bd_nI (by omega))))) w_804 w_806 w_s31 w_7 w_807 (by decide +kernel) rfl ⟨(Nat.le_of_ble_eq_true rfl), (Nat.le_of_ble_eq_true rfl)⟩ 0 (ci := 0) rfl rfl [0, 1, 2, 3, 4, 5] [] rfl rfl rfl rfl (by decide) (Nat.le_of_ble_eq_true rfl) dX0_layFrom_129 ⟨(Nat.le_of_ble_eq_true rfl), (Nat.le_of_ble_eq_true rfl)⟩ rfl (fun r w1 H locs hQ V => ?_)
                  obtain ⟨bs_17, g1_18, g2_19, rfl, rfl, f_20⟩ := hQ
                  have V : gW D T A s [(y0, .inr (0, [.int bs_17, .ref y1, .ref y2])), (y1, .inl (T 0, 7, .inl g1_18)), (y2, .inl (T 0, 7, .inl g2_19)), (a0, .inr (5, [.int (nI an), .int am, .int al, .int ao, .int au, .ref a1, .ref a2, .ref a3, .ref a4, .ref a5, .ref a6, .ref a7, .ref a8, .ref a9, .ref a10])), (a1, .inl (T 0, 10, .inl af1)), (a2, .inl (T 0, 10, .inl af2))] H locs := V
                  show W p l e _ s m args below meth c H locs _ _ _ (F0 m 132 ls [])
                  have hq := up_all (p := fun x => x = -1 ∨ bd x 7) (k := 3) (x := -1) f_20 (fun _ => Or.inl rfl)
                  refine lv_aload_n hx hb dX0_layFrom_132 rfl (lv_at hl 2 rfl) ?_
                  refine g_get hC V (ci := 0) uwX0 0 rfl rfl 2 (by decide) w_215 rfl rfl dX0_layFrom_133 ?_
                  refine lv_iload_n hx hb dX0_layFrom_136 rfl (lv_at hl 4 rfl) ?_
                  refine lv_iconst (v := (-1)) hx hb dX0_layFrom_137 (by decide +kernel) ?_
                  refine g_iast hC V 2 rfl (vp_in_nI (by decide) (by decide)) (f' := (upd g2_19 3 (-1))) (by rw [nI_clamp (by decide)]) (ws' := [(y0, .inr (0, [.int bs_17, .ref y1, .ref y2])), (y1, .inl (T 0, 7, .inl g1_18)), (y2, .inl (T 0, 7, .inl (upd g2_19 3 (-1)))), (a0, .inr (5, [.int (nI an), .int am, .int al, .int ao, .int au, .ref a1, .ref a2, .ref a3, .ref a4, .ref a5, .ref a6, .ref a7, .ref a8, .ref a9, .ref a10])), (a1, .inl (T 0, 10, .inl af1)), (a2, .inl (T 0, 10, .inl af2))]) rfl dX0_layFrom_138 (fun H locs V => ?_)
                  refine lv_iinc (v := (nI (k57 + 1))) (lv' := [(5, .int (nI (k57 + 1))), (6, .int x_16), (0, .ref y0), (1, .ref a0), (2, .int (nI 3)), (3, .int tk), (4, .int sum)]) hx hb dX0_layFrom_139 hl (k := 1) rfl (nI_1 _) (by decide) rfl (fun ls hl => ?_)
                  refine lv_goto (tgt := 57) hx hb dX0_layFrom_142 (by decide) ?_
                  exact ih_57 (k57 + 1) bs_17 g1_18 (upd g2_19 3 (-1)) (by omega) (by assumption) (by omega) _ _ _ V (lv_sub hl [0, 2, 3, 4, 5, 6] rfl)
        exact L_14 _ 0 ys yb yt (by omega) h_yt (Nat.lt_succ_self _) _ _ _ V (lv_sub hl [0, 1, 2, 3, 4, 5] rfl)
    · skip
      exact g_vret (Qr := (q_y_lay3 T y0 a0 tk sum ys y1 y2 yb yt an am al ao au a1 a2 a3 a4 a5 a6 a7 a8 a9 a10 af1 af2)) hC V ⟨(Nat.le_of_ble_eq_true rfl), (Nat.le_of_ble_eq_true rfl)⟩ ⟨ys, yb, yt, rfl, rfl, (by first | assumption | omega)⟩ dX0_layFrom_17

def q_y_lay2 (T : Nat → ClassId) (y0 : Nat) (a0 : Nat) (tk : Int32) (sum : Int32) (ys : Int32) (y1 : Nat) (y2 : Nat) (yb : Nat → Int32) (yt : Nat → Int32) (an : Nat) (am : Int32) (al : Int32) (ao : Int32) (au : Int32) (a1 : Nat) (a2 : Nat) (a3 : Nat) (a4 : Nat) (a5 : Nat) (a6 : Nat) (a7 : Nat) (a8 : Nat) (a9 : Nat) (a10 : Nat) (af1 : Nat → Int32) (af2 : Nat → Int32) : Option Value → va_W → Prop := fun rr ww => (∃ (bs : Int32) (g1 : Nat → Int32) (g2 : Nat → Int32), rr = none ∧ ww = [(y0, .inr (0, [.int bs, .ref y1, .ref y2])), (y1, .inl (T 0, 7, .inl g1)), (y2, .inl (T 0, 7, .inl g2)), (a0, .inr (5, [.int (nI an), .int am, .int al, .int ao, .int au, .ref a1, .ref a2, .ref a3, .ref a4, .ref a5, .ref a6, .ref a7, .ref a8, .ref a9, .ref a10])), (a1, .inl (T 0, 10, .inl af1)), (a2, .inl (T 0, 10, .inl af2))] ∧ (∀ i, i < 7 → (g2 i = -1 ∨ bd (g2 i) 7)))
set_option maxHeartbeats 4000000 in
set_option maxRecDepth 100000 in
theorem y_lay2 (l : Launch) (D : va_G) (T : Nat → ClassId) (y0 : Nat) (a0 : Nat) (tk : Int32) (sum : Int32) (ys : Int32) (y1 : Nat) (y2 : Nat) (yb : Nat → Int32) (yt : Nat → Int32) (an : Nat) (am : Int32) (al : Int32) (ao : Int32) (au : Int32) (a1 : Nat) (a2 : Nat) (a3 : Nat) (a4 : Nat) (a5 : Nat) (a6 : Nat) (a7 : Nat) (a8 : Nat) (a9 : Nat) (a10 : Nat) (af1 : Nat → Int32) (af2 : Nat → Int32) (h_n : an ≤ 7) (h_yt : ∀ i, i < 7 → (yt i = -1 ∨ bd (yt i) 7)) : Ct l yX0_layFrom cX0_layFrom 7 none 7 0 0 D T [.ref y0, .ref a0, .int (nI 2), .int tk, .int sum] [(y0, .inr (0, [.int ys, .ref y1, .ref y2])), (y1, .inl (T 0, 7, .inl yb)), (y2, .inl (T 0, 7, .inl yt)), (a0, .inr (5, [.int (nI an), .int am, .int al, .int ao, .int au, .ref a1, .ref a2, .ref a3, .ref a4, .ref a5, .ref a6, .ref a7, .ref a8, .ref a9, .ref a10])), (a1, .inl (T 0, 10, .inl af1)), (a2, .inl (T 0, 10, .inl af2))] (q_y_lay2 T y0 a0 tk sum ys y1 y2 yb yt an am al ao au a1 a2 a3 a4 a5 a6 a7 a8 a9 a10 af1 af2) := by
  refine Ct.of (cc := cX0_layFrom) (maxL := 7) (ret := none) (by decide) (Nat.le_of_ble_eq_true rfl) ?_
  intro p e s m args below meth c A ls hC hnm V hl
  obtain ⟨hx, hb, hr, hml, hown, hts, hlocks⟩ := id hC
  generalize hH : s.heap = H at V ⊢
  clear hH
  have hl : lv_has ls 7 [(0, .ref y0), (1, .ref a0), (2, .int (nI 2)), (3, .int tk), (4, .int sum)] := hl
  generalize hlo : ([] : List Loc) = locs at V ⊢
  clear hlo
  refine lv_aload_n hx hb dX0_layFrom_0 rfl (lv_at hl 0 rfl) ?_
  refine g_get hC V (ci := 0) uwX0 0 rfl rfl 0 (by decide) w_211 rfl rfl dX0_layFrom_1 ?_
  refine lv_iconst (v := (-1)) hx hb dX0_layFrom_4 (by decide +kernel) ?_
  refine lv_icmp_eq (tgt := 18) hx hb dX0_layFrom_5 (by decide) (fun c_1 => ?_) (fun c_1 => ?_)
  · skip
    refine lv_iload_n hx hb dX0_layFrom_18 rfl (lv_at hl 2 rfl) ?_
    refine lv_aload_n hx hb dX0_layFrom_19 rfl (lv_at hl 1 rfl) ?_
    refine g_get hC V (ci := 5) uwX5 3 rfl rfl 0 (by decide) w_35 rfl rfl dX0_layFrom_20 ?_
    refine lv_icmp_ge (tgt := 32) hx hb dX0_layFrom_23 (by decide) (fun c_2 => ?_) (fun c_2 => ?_)
    · skip
      have c_2 := b_le (by omega) (by omega) c_2
      refine lv_aload_n hx hb dX0_layFrom_32 rfl (lv_at hl 0 rfl) ?_
      refine lv_iload hx hb dX0_layFrom_33 (lv_at hl 4 rfl) ?_
      refine g_put hC V (ci := 0) uwX0 tyX0 tyX0_ok nmX0 0 rfl rfl 0 (by decide) w_211 rfl rfl rfl rfl (Nat.le_of_ble_eq_true rfl) (ws' := [(y0, .inr (0, [.int sum, .ref y1, .ref y2])), (y1, .inl (T 0, 7, .inl yb)), (y2, .inl (T 0, 7, .inl yt)), (a0, .inr (5, [.int (nI an), .int am, .int al, .int ao, .int au, .ref a1, .ref a2, .ref a3, .ref a4, .ref a5, .ref a6, .ref a7, .ref a8, .ref a9, .ref a10])), (a1, .inl (T 0, 10, .inl af1)), (a2, .inl (T 0, 10, .inl af2))]) rfl dX0_layFrom_35 (fun H locs V => ?_)
      refine lv_aload_n hx hb dX0_layFrom_38 rfl (lv_at hl 0 rfl) ?_
      refine g_get hC V (ci := 0) uwX0 0 rfl rfl 2 (by decide) w_215 rfl rfl dX0_layFrom_39 ?_
      refine lv_iconst (v := (nI 0)) hx hb dX0_layFrom_42 (by decide +kernel) ?_
      refine lv_aload_n hx hb dX0_layFrom_43 rfl (lv_at hl 0 rfl) ?_
      refine g_get hC V (ci := 0) uwX0 0 rfl rfl 1 (by decide) w_213 rfl rfl dX0_layFrom_44 ?_
      refine lv_iconst (v := (nI 0)) hx hb dX0_layFrom_47 (by decide +kernel) ?_
      refine lv_bipush (v := (nI 7)) hx hb dX0_layFrom_48 (by decide +kernel) ?_
      refine g_copyi hC V hl.1 w_808 w_672 w_671 w_17 2 1 rfl rfl (by decide +kernel) (by decide +kernel) (Nat.le_of_ble_eq_true rfl) (Nat.le_of_ble_eq_true rfl) (Nat.le_of_ble_eq_true rfl) dX0_layFrom_50 (fun g_3 H locs V => ?_)
      have V : gW D T A s [(y0, .inr (0, [.int sum, .ref y1, .ref y2])), (y1, .inl (T 0, 7, .inl g_3)), (y2, .inl (T 0, 7, .inl yt)), (a0, .inr (5, [.int (nI an), .int am, .int al, .int ao, .int au, .ref a1, .ref a2, .ref a3, .ref a4, .ref a5, .ref a6, .ref a7, .ref a8, .ref a9, .ref a10])), (a1, .inl (T 0, 10, .inl af1)), (a2, .inl (T 0, 10, .inl af2))] H locs := V
      exact g_vret (Qr := (q_y_lay2 T y0 a0 tk sum ys y1 y2 yb yt an am al ao au a1 a2 a3 a4 a5 a6 a7 a8 a9 a10 af1 af2)) hC V ⟨(Nat.le_of_ble_eq_true rfl), (Nat.le_of_ble_eq_true rfl)⟩ ⟨sum, g_3, yt, rfl, rfl, (by first | assumption | omega)⟩ dX0_layFrom_53
    · skip
      have c_2 := b_nle (by omega) (by omega) c_2
      refine lv_iload_n hx hb dX0_layFrom_26 rfl (lv_at hl 2 rfl) ?_
      refine lv_bipush (v := (nI 7)) hx hb dX0_layFrom_27 (by decide +kernel) ?_
      refine lv_icmp_lt (tgt := 54) hx hb dX0_layFrom_29 (by decide) (fun _ => ?_) (fun c => absurd (show (nI 2) < (nI 7) by first | rfl | decide +kernel) c)
      refine lv_iconst (v := (nI 0)) hx hb dX0_layFrom_54 (by decide +kernel) ?_
      refine lv_istore (lv' := [(5, .int (nI 0)), (0, .ref y0), (1, .ref a0), (2, .int (nI 2)), (3, .int tk), (4, .int sum)]) hx hb dX0_layFrom_55 hl (by decide) rfl (fun ls hl => ?_)
      have L_4 : ∀ (fu : Nat) (k57 : Nat) (bv : Int32) (ga : Nat → Int32) (gb : Nat → Int32), k57 ≤ an → (∀ i, i < 7 → (gb i = -1 ∨ bd (gb i) 7)) → an - k57 < fu → ∀ (H : Heap) (locs : List Loc) (ls : Array Slot), gW D T A s [(y0, .inr (0, [.int bv, .ref y1, .ref y2])), (y1, .inl (T 0, 7, .inl ga)), (y2, .inl (T 0, 7, .inl gb)), (a0, .inr (5, [.int (nI an), .int am, .int al, .int ao, .int au, .ref a1, .ref a2, .ref a3, .ref a4, .ref a5, .ref a6, .ref a7, .ref a8, .ref a9, .ref a10])), (a1, .inl (T 0, 10, .inl af1)), (a2, .inl (T 0, 10, .inl af2))] H locs → lv_has ls 7 [(5, .int (nI k57)), (0, .ref y0), (1, .ref a0), (2, .int (nI 2)), (3, .int tk), (4, .int sum)] → W p l e (rmD 7 0 0) s m args below meth c H locs 0 0 (MQ below (gQ D A (q_y_lay2 T y0 a0 tk sum ys y1 y2 yb yt an am al ao au a1 a2 a3 a4 a5 a6 a7 a8 a9 a10 af1 af2)) args s 0 0 A) (F0 m 57 ls []) := by
        intro fu_57
        induction fu_57 with
        | zero => intro k57 bv ga gb hk57 hgb hmu; exact absurd hmu (Nat.not_lt_zero _)
        | succ fu_57 ih_57 =>
          intro k57 bv ga gb hk57 hgb hmu_57 H locs ls V hl
          refine lv_iload hx hb dX0_layFrom_57 (lv_at hl 0 rfl) ?_
          refine lv_aload_n hx hb dX0_layFrom_59 rfl (lv_at hl 2 rfl) ?_
          refine g_get hC V (ci := 5) uwX5 3 rfl rfl 0 (by decide) w_35 rfl rfl dX0_layFrom_60 ?_
          refine lv_icmp_ge (tgt := 145) hx hb dX0_layFrom_63 (by decide) (fun c_5 => ?_) (fun c_5 => ?_)
          · skip
            have c_5 := b_le (by omega) (by omega) c_5
            exact g_vret (Qr := (q_y_lay2 T y0 a0 tk sum ys y1 y2 yb yt an am al ao au a1 a2 a3 a4 a5 a6 a7 a8 a9 a10 af1 af2)) hC V ⟨(Nat.le_of_ble_eq_true rfl), (Nat.le_of_ble_eq_true rfl)⟩ ⟨bv, ga, gb, rfl, rfl, (by first | assumption | omega)⟩ dX0_layFrom_145
          · skip
            have c_5 := b_nle (by omega) (by omega) c_5
            refine lv_iload_n hx hb dX0_layFrom_66 rfl (lv_at hl 4 rfl) ?_
            refine lv_iload hx hb dX0_layFrom_67 (lv_at hl 0 rfl) ?_
            refine g_callSNU (nA := 2) (host := RX7) hC V hl.1 (c_isIn l D T tk (nI k57)) w_472 (List.mem_of_getElem? (i := 7) rfl) w_2 w_471 (by decide +kernel) rfl ⟨(Nat.le_of_ble_eq_true rfl), (Nat.le_of_ble_eq_true rfl)⟩ [] rfl rfl (Nat.le_of_ble_eq_true rfl) dX0_layFrom_69 ⟨(Nat.le_of_ble_eq_true rfl), (Nat.le_of_ble_eq_true rfl)⟩ rfl (fun r w1 H locs hQ V => ?_)
            rcases hQ with ⟨rfl, rfl⟩ | ⟨rfl, rfl⟩
            · have V : gW D T A s [(y0, .inr (0, [.int bv, .ref y1, .ref y2])), (y1, .inl (T 0, 7, .inl ga)), (y2, .inl (T 0, 7, .inl gb)), (a0, .inr (5, [.int (nI an), .int am, .int al, .int ao, .int au, .ref a1, .ref a2, .ref a3, .ref a4, .ref a5, .ref a6, .ref a7, .ref a8, .ref a9, .ref a10])), (a1, .inl (T 0, 10, .inl af1)), (a2, .inl (T 0, 10, .inl af2))] H locs := V _ [] rfl rfl rfl (by decide +kernel) rfl
              show W p l e _ s m args below meth c H locs _ _ _ (F0 m 72 ls [.int (nI 1)])
              refine lv_if_ne (tgt := 139) hx hb dX0_layFrom_72 (by decide) (fun _ => ?_) (fun c => absurd (show (nI 1) = 0 from c) (by decide +kernel))
              refine lv_iinc (v := (nI (k57 + 1))) (lv' := [(5, .int (nI (k57 + 1))), (0, .ref y0), (1, .ref a0), (2, .int (nI 2)), (3, .int tk), (4, .int sum)]) hx hb dX0_layFrom_139 hl (k := 0) rfl (nI_1 _) (by decide) rfl (fun ls hl => ?_)
              refine lv_goto (tgt := 57) hx hb dX0_layFrom_142 (by decide) ?_
              exact ih_57 (k57 + 1) bv ga gb (by omega) (by assumption) (by omega) _ _ _ V (lv_sub hl [0, 1, 2, 3, 4, 5] rfl)
            · have V : gW D T A s [(y0, .inr (0, [.int bv, .ref y1, .ref y2])), (y1, .inl (T 0, 7, .inl ga)), (y2, .inl (T 0, 7, .inl gb)), (a0, .inr (5, [.int (nI an), .int am, .int al, .int ao, .int au, .ref a1, .ref a2, .ref a3, .ref a4, .ref a5, .ref a6, .ref a7, .ref a8, .ref a9, .ref a10])), (a1, .inl (T 0, 10, .inl af1)), (a2, .inl (T 0, 10, .inl af2))] H locs := V _ [] rfl rfl rfl (by decide +kernel) rfl
              show W p l e _ s m args below meth c H locs _ _ _ (F0 m 72 ls [.int (nI 0)])
              refine lv_if_ne (tgt := 139) hx hb dX0_layFrom_72 (by decide) (fun c => absurd (show (nI 0) = 0 by decide +kernel) c) (fun _ => ?_)
              refine lv_aload_n hx hb dX0_layFrom_75 rfl (lv_at hl 1 rfl) ?_
              refine lv_aload_n hx hb dX0_layFrom_76 rfl (lv_at hl 2 rfl) ?_
              refine lv_iload_n hx hb dX0_layFrom_77 rfl (lv_at hl 3 rfl) ?_
              refine lv_iload hx hb dX0_layFrom_78 (lv_at hl 0 rfl) ?_
              refine g_callVU (nA := 3) hC V hl.1 (y_closes l D T y0 a0 2 k57 bv y1 y2 gb an am al ao au a1 a2 a3 a4 a5 a6 a7 a8 a9 a10 (by first | assumption | omega) hgb (by first | assumption | omega) (by first | assumption | omega)) w_810 w_812 w_s32 w_7 w_813 (by decide +kernel) rfl ⟨(Nat.le_of_ble_eq_true rfl), (Nat.le_of_ble_eq_true rfl)⟩ 0 (ci := 0) rfl rfl [0, 2, 3] rfl rfl (Nat.le_of_ble_eq_true rfl) dX0_layFrom_80 ⟨(Nat.le_of_ble_eq_true rfl), (Nat.le_of_ble_eq_true rfl)⟩ rfl (fun r w1 H locs hQ V => ?_)
              rcases hQ with ⟨rfl, rfl⟩ | ⟨rfl, rfl⟩
              · have V : gW D T A s [(y0, .inr (0, [.int bv, .ref y1, .ref y2])), (y1, .inl (T 0, 7, .inl ga)), (y2, .inl (T 0, 7, .inl gb)), (a0, .inr (5, [.int (nI an), .int am, .int al, .int ao, .int au, .ref a1, .ref a2, .ref a3, .ref a4, .ref a5, .ref a6, .ref a7, .ref a8, .ref a9, .ref a10])), (a1, .inl (T 0, 10, .inl af1)), (a2, .inl (T 0, 10, .inl af2))] H locs := V _ [0, 1, 0] rfl rfl rfl (by decide +kernel) rfl
                show W p l e _ s m args below meth c H locs _ _ _ (F0 m 83 ls [.int (nI 1)])
                refine lv_if_ne (tgt := 139) hx hb dX0_layFrom_83 (by decide) (fun _ => ?_) (fun c => absurd (show (nI 1) = 0 from c) (by decide +kernel))
                refine lv_iinc (v := (nI (k57 + 1))) (lv' := [(5, .int (nI (k57 + 1))), (0, .ref y0), (1, .ref a0), (2, .int (nI 2)), (3, .int tk), (4, .int sum)]) hx hb dX0_layFrom_139 hl (k := 0) rfl (nI_1 _) (by decide) rfl (fun ls hl => ?_)
                refine lv_goto (tgt := 57) hx hb dX0_layFrom_142 (by decide) ?_
                exact ih_57 (k57 + 1) bv ga gb (by omega) (by assumption) (by omega) _ _ _ V (lv_sub hl [0, 1, 2, 3, 4, 5] rfl)
              · have V : gW D T A s [(y0, .inr (0, [.int bv, .ref y1, .ref y2])), (y1, .inl (T 0, 7, .inl ga)), (y2, .inl (T 0, 7, .inl gb)), (a0, .inr (5, [.int (nI an), .int am, .int al, .int ao, .int au, .ref a1, .ref a2, .ref a3, .ref a4, .ref a5, .ref a6, .ref a7, .ref a8, .ref a9, .ref a10])), (a1, .inl (T 0, 10, .inl af1)), (a2, .inl (T 0, 10, .inl af2))] H locs := V _ [0, 1, 0] rfl rfl rfl (by decide +kernel) rfl
                show W p l e _ s m args below meth c H locs _ _ _ (F0 m 83 ls [.int (nI 0)])
                refine lv_if_ne (tgt := 139) hx hb dX0_layFrom_83 (by decide) (fun c => absurd (show (nI 0) = 0 by decide +kernel) c) (fun _ => ?_)
                refine lv_aload_n hx hb dX0_layFrom_86 rfl (lv_at hl 1 rfl) ?_
                refine g_get hC V (ci := 0) uwX0 0 rfl rfl 2 (by decide) w_215 rfl rfl dX0_layFrom_87 ?_
                refine lv_iload_n hx hb dX0_layFrom_90 rfl (lv_at hl 3 rfl) ?_
                refine lv_iload hx hb dX0_layFrom_91 (lv_at hl 0 rfl) ?_
                refine g_iast hC V 2 rfl (vp_in_nI (by decide) (by decide)) (f' := (upd gb 2 (nI k57))) (by rw [nI_clamp (by decide)]) (ws' := [(y0, .inr (0, [.int bv, .ref y1, .ref y2])), (y1, .inl (T 0, 7, .inl ga)), (y2, .inl (T 0, 7, .inl (upd gb 2 (nI k57)))), (a0, .inr (5, [.int (nI an), .int am, .int al, .int ao, .int au, .ref a1, .ref a2, .ref a3, .ref a4, .ref a5, .ref a6, .ref a7, .ref a8, .ref a9, .ref a10])), (a1, .inl (T 0, 10, .inl af1)), (a2, .inl (T 0, 10, .inl af2))]) rfl dX0_layFrom_93 (fun H locs V => ?_)
                refine lv_aload_n hx hb dX0_layFrom_94 rfl (lv_at hl 2 rfl) ?_
                refine g_get hC V (ci := 5) uwX5 3 rfl rfl 5 (by decide) w_52 rfl rfl dX0_layFrom_95 ?_
                refine lv_iload_n hx hb dX0_layFrom_98 rfl (lv_at hl 3 rfl) ?_
                refine g_iald hC V 4 rfl (vp_in_nI (by decide) (by decide)) (v := (af1 2)) (congrArg _ (nI_clamp (by decide))) dX0_layFrom_99 ?_
                refine lv_aload_n hx hb dX0_layFrom_100 rfl (lv_at hl 2 rfl) ?_
                refine g_get hC V (ci := 5) uwX5 3 rfl rfl 6 (by decide) w_58 rfl rfl dX0_layFrom_101 ?_
                refine lv_iload hx hb dX0_layFrom_104 (lv_at hl 0 rfl) ?_
                refine g_iald hC V 5 rfl (vp_in_nI (by omega) (by omega)) (v := (af2 k57)) (congrArg _ (nI_clamp (by omega))) dX0_layFrom_106 ?_
                refine lv_isub hx hb dX0_layFrom_107 ?_
                refine va_mabs hx hb (hml.trans hl.1.symm) hown (hts _ w_814) (hts _ w_815) (hts _ w_10) (hts _ w_816) (Nat.le_of_ble_eq_true rfl) (Nat.le_of_ble_eq_true rfl) (Nat.le_of_ble_eq_true rfl) (Nat.le_of_ble_eq_true rfl) dX0_layFrom_108 ?_
                refine lv_topi (fun x_6 ex_6 => ?_)
                refine lv_istore (lv' := [(6, .int x_6), (5, .int (nI k57)), (0, .ref y0), (1, .ref a0), (2, .int (nI 2)), (3, .int tk), (4, .int sum)]) hx hb dX0_layFrom_111 hl (by decide) rfl (fun ls hl => ?_)
                refine lv_aload_n hx hb dX0_layFrom_113 rfl (lv_at hl 2 rfl) ?_
                refine lv_aload_n hx hb dX0_layFrom_114 rfl (lv_at hl 3 rfl) ?_
                refine lv_iload_n hx hb dX0_layFrom_115 rfl (lv_at hl 4 rfl) ?_
                refine lv_iconst (v := (nI 1)) hx hb dX0_layFrom_116 (by decide +kernel) ?_
                refine lv_iadd hx hb dX0_layFrom_117 ?_
                refine g_vi (y := (nI 3)) (by decide +kernel) ?_
                refine lv_iload_n hx hb dX0_layFrom_118 rfl (lv_at hl 5 rfl) ?_
                refine lv_iconst (v := (nI 1)) hx hb dX0_layFrom_119 (by decide +kernel) ?_
                refine lv_iload hx hb dX0_layFrom_120 (lv_at hl 1 rfl) ?_
                refine lv_ishl hx hb dX0_layFrom_122 ?_
                refine lv_ior hx hb dX0_layFrom_123 ?_
                refine lv_iload hx hb dX0_layFrom_124 (lv_at hl 6 rfl) ?_
                refine lv_iload hx hb dX0_layFrom_126 (lv_at hl 0 rfl) ?_
                refine lv_iadd hx hb dX0_layFrom_128 ?_
                refine g_callV (wr := []) (nA := 4) hC V hl.1 (y_lay3 l D T y0 a0 (tk ||| ((nI 1) <<< ((nI k57) &&& 31))) (sum + x_6) bv y1 y2 ga (upd gb 2 (nI k57)) an am al ao au a1 a2 a3 a4 a5 a6 a7 a8 a9 a10 af1 af2 (by first | assumption | omega) (up_all (p := fun x => x = -1 ∨ bd x 7) hgb (fun _ => Or.inr (bd_nI (by omega))))) w_804 w_806 w_s31 w_7 w_807 (by decide +kernel) rfl ⟨(Nat.le_of_ble_eq_true rfl), (Nat.le_of_ble_eq_true rfl)⟩ 0 (ci := 0) rfl rfl [0, 1, 2, 3, 4, 5] [] rfl rfl rfl rfl (by decide) (Nat.le_of_ble_eq_true rfl) dX0_layFrom_129 ⟨(Nat.le_of_ble_eq_true rfl), (Nat.le_of_ble_eq_true rfl)⟩ rfl (fun r w1 H locs hQ V => ?_)
                obtain ⟨bs_7, g1_8, g2_9, rfl, rfl, f_10⟩ := hQ
                have V : gW D T A s [(y0, .inr (0, [.int bs_7, .ref y1, .ref y2])), (y1, .inl (T 0, 7, .inl g1_8)), (y2, .inl (T 0, 7, .inl g2_9)), (a0, .inr (5, [.int (nI an), .int am, .int al, .int ao, .int au, .ref a1, .ref a2, .ref a3, .ref a4, .ref a5, .ref a6, .ref a7, .ref a8, .ref a9, .ref a10])), (a1, .inl (T 0, 10, .inl af1)), (a2, .inl (T 0, 10, .inl af2))] H locs := V
                show W p l e _ s m args below meth c H locs _ _ _ (F0 m 132 ls [])
                have hq := up_all (p := fun x => x = -1 ∨ bd x 7) (k := 2) (x := -1) f_10 (fun _ => Or.inl rfl)
                refine lv_aload_n hx hb dX0_layFrom_132 rfl (lv_at hl 2 rfl) ?_
                refine g_get hC V (ci := 0) uwX0 0 rfl rfl 2 (by decide) w_215 rfl rfl dX0_layFrom_133 ?_
                refine lv_iload_n hx hb dX0_layFrom_136 rfl (lv_at hl 4 rfl) ?_
                refine lv_iconst (v := (-1)) hx hb dX0_layFrom_137 (by decide +kernel) ?_
                refine g_iast hC V 2 rfl (vp_in_nI (by decide) (by decide)) (f' := (upd g2_9 2 (-1))) (by rw [nI_clamp (by decide)]) (ws' := [(y0, .inr (0, [.int bs_7, .ref y1, .ref y2])), (y1, .inl (T 0, 7, .inl g1_8)), (y2, .inl (T 0, 7, .inl (upd g2_9 2 (-1)))), (a0, .inr (5, [.int (nI an), .int am, .int al, .int ao, .int au, .ref a1, .ref a2, .ref a3, .ref a4, .ref a5, .ref a6, .ref a7, .ref a8, .ref a9, .ref a10])), (a1, .inl (T 0, 10, .inl af1)), (a2, .inl (T 0, 10, .inl af2))]) rfl dX0_layFrom_138 (fun H locs V => ?_)
                refine lv_iinc (v := (nI (k57 + 1))) (lv' := [(5, .int (nI (k57 + 1))), (6, .int x_6), (0, .ref y0), (1, .ref a0), (2, .int (nI 2)), (3, .int tk), (4, .int sum)]) hx hb dX0_layFrom_139 hl (k := 1) rfl (nI_1 _) (by decide) rfl (fun ls hl => ?_)
                refine lv_goto (tgt := 57) hx hb dX0_layFrom_142 (by decide) ?_
                exact ih_57 (k57 + 1) bs_7 g1_8 (upd g2_9 2 (-1)) (by omega) (by assumption) (by omega) _ _ _ V (lv_sub hl [0, 2, 3, 4, 5, 6] rfl)
      exact L_4 _ 0 ys yb yt (by omega) h_yt (Nat.lt_succ_self _) _ _ _ V (lv_sub hl [0, 1, 2, 3, 4, 5] rfl)
  · skip
    refine lv_iload hx hb dX0_layFrom_8 (lv_at hl 4 rfl) ?_
    refine lv_aload_n hx hb dX0_layFrom_10 rfl (lv_at hl 0 rfl) ?_
    refine g_get hC V (ci := 0) uwX0 0 rfl rfl 0 (by decide) w_211 rfl rfl dX0_layFrom_11 ?_
    refine lv_icmp_lt (tgt := 18) hx hb dX0_layFrom_14 (by decide) (fun c_11 => ?_) (fun c_11 => ?_)
    · skip
      refine lv_iload_n hx hb dX0_layFrom_18 rfl (lv_at hl 2 rfl) ?_
      refine lv_aload_n hx hb dX0_layFrom_19 rfl (lv_at hl 1 rfl) ?_
      refine g_get hC V (ci := 5) uwX5 3 rfl rfl 0 (by decide) w_35 rfl rfl dX0_layFrom_20 ?_
      refine lv_icmp_ge (tgt := 32) hx hb dX0_layFrom_23 (by decide) (fun c_12 => ?_) (fun c_12 => ?_)
      · skip
        have c_12 := b_le (by omega) (by omega) c_12
        refine lv_aload_n hx hb dX0_layFrom_32 rfl (lv_at hl 0 rfl) ?_
        refine lv_iload hx hb dX0_layFrom_33 (lv_at hl 4 rfl) ?_
        refine g_put hC V (ci := 0) uwX0 tyX0 tyX0_ok nmX0 0 rfl rfl 0 (by decide) w_211 rfl rfl rfl rfl (Nat.le_of_ble_eq_true rfl) (ws' := [(y0, .inr (0, [.int sum, .ref y1, .ref y2])), (y1, .inl (T 0, 7, .inl yb)), (y2, .inl (T 0, 7, .inl yt)), (a0, .inr (5, [.int (nI an), .int am, .int al, .int ao, .int au, .ref a1, .ref a2, .ref a3, .ref a4, .ref a5, .ref a6, .ref a7, .ref a8, .ref a9, .ref a10])), (a1, .inl (T 0, 10, .inl af1)), (a2, .inl (T 0, 10, .inl af2))]) rfl dX0_layFrom_35 (fun H locs V => ?_)
        refine lv_aload_n hx hb dX0_layFrom_38 rfl (lv_at hl 0 rfl) ?_
        refine g_get hC V (ci := 0) uwX0 0 rfl rfl 2 (by decide) w_215 rfl rfl dX0_layFrom_39 ?_
        refine lv_iconst (v := (nI 0)) hx hb dX0_layFrom_42 (by decide +kernel) ?_
        refine lv_aload_n hx hb dX0_layFrom_43 rfl (lv_at hl 0 rfl) ?_
        refine g_get hC V (ci := 0) uwX0 0 rfl rfl 1 (by decide) w_213 rfl rfl dX0_layFrom_44 ?_
        refine lv_iconst (v := (nI 0)) hx hb dX0_layFrom_47 (by decide +kernel) ?_
        refine lv_bipush (v := (nI 7)) hx hb dX0_layFrom_48 (by decide +kernel) ?_
        refine g_copyi hC V hl.1 w_808 w_672 w_671 w_17 2 1 rfl rfl (by decide +kernel) (by decide +kernel) (Nat.le_of_ble_eq_true rfl) (Nat.le_of_ble_eq_true rfl) (Nat.le_of_ble_eq_true rfl) dX0_layFrom_50 (fun g_13 H locs V => ?_)
        have V : gW D T A s [(y0, .inr (0, [.int sum, .ref y1, .ref y2])), (y1, .inl (T 0, 7, .inl g_13)), (y2, .inl (T 0, 7, .inl yt)), (a0, .inr (5, [.int (nI an), .int am, .int al, .int ao, .int au, .ref a1, .ref a2, .ref a3, .ref a4, .ref a5, .ref a6, .ref a7, .ref a8, .ref a9, .ref a10])), (a1, .inl (T 0, 10, .inl af1)), (a2, .inl (T 0, 10, .inl af2))] H locs := V
        exact g_vret (Qr := (q_y_lay2 T y0 a0 tk sum ys y1 y2 yb yt an am al ao au a1 a2 a3 a4 a5 a6 a7 a8 a9 a10 af1 af2)) hC V ⟨(Nat.le_of_ble_eq_true rfl), (Nat.le_of_ble_eq_true rfl)⟩ ⟨sum, g_13, yt, rfl, rfl, (by first | assumption | omega)⟩ dX0_layFrom_53
      · skip
        have c_12 := b_nle (by omega) (by omega) c_12
        refine lv_iload_n hx hb dX0_layFrom_26 rfl (lv_at hl 2 rfl) ?_
        refine lv_bipush (v := (nI 7)) hx hb dX0_layFrom_27 (by decide +kernel) ?_
        refine lv_icmp_lt (tgt := 54) hx hb dX0_layFrom_29 (by decide) (fun _ => ?_) (fun c => absurd (show (nI 2) < (nI 7) by first | rfl | decide +kernel) c)
        refine lv_iconst (v := (nI 0)) hx hb dX0_layFrom_54 (by decide +kernel) ?_
        refine lv_istore (lv' := [(5, .int (nI 0)), (0, .ref y0), (1, .ref a0), (2, .int (nI 2)), (3, .int tk), (4, .int sum)]) hx hb dX0_layFrom_55 hl (by decide) rfl (fun ls hl => ?_)
        have L_14 : ∀ (fu : Nat) (k57 : Nat) (bv : Int32) (ga : Nat → Int32) (gb : Nat → Int32), k57 ≤ an → (∀ i, i < 7 → (gb i = -1 ∨ bd (gb i) 7)) → an - k57 < fu → ∀ (H : Heap) (locs : List Loc) (ls : Array Slot), gW D T A s [(y0, .inr (0, [.int bv, .ref y1, .ref y2])), (y1, .inl (T 0, 7, .inl ga)), (y2, .inl (T 0, 7, .inl gb)), (a0, .inr (5, [.int (nI an), .int am, .int al, .int ao, .int au, .ref a1, .ref a2, .ref a3, .ref a4, .ref a5, .ref a6, .ref a7, .ref a8, .ref a9, .ref a10])), (a1, .inl (T 0, 10, .inl af1)), (a2, .inl (T 0, 10, .inl af2))] H locs → lv_has ls 7 [(5, .int (nI k57)), (0, .ref y0), (1, .ref a0), (2, .int (nI 2)), (3, .int tk), (4, .int sum)] → W p l e (rmD 7 0 0) s m args below meth c H locs 0 0 (MQ below (gQ D A (q_y_lay2 T y0 a0 tk sum ys y1 y2 yb yt an am al ao au a1 a2 a3 a4 a5 a6 a7 a8 a9 a10 af1 af2)) args s 0 0 A) (F0 m 57 ls []) := by
          intro fu_57
          induction fu_57 with
          | zero => intro k57 bv ga gb hk57 hgb hmu; exact absurd hmu (Nat.not_lt_zero _)
          | succ fu_57 ih_57 =>
            intro k57 bv ga gb hk57 hgb hmu_57 H locs ls V hl
            refine lv_iload hx hb dX0_layFrom_57 (lv_at hl 0 rfl) ?_
            refine lv_aload_n hx hb dX0_layFrom_59 rfl (lv_at hl 2 rfl) ?_
            refine g_get hC V (ci := 5) uwX5 3 rfl rfl 0 (by decide) w_35 rfl rfl dX0_layFrom_60 ?_
            refine lv_icmp_ge (tgt := 145) hx hb dX0_layFrom_63 (by decide) (fun c_15 => ?_) (fun c_15 => ?_)
            · skip
              have c_15 := b_le (by omega) (by omega) c_15
              exact g_vret (Qr := (q_y_lay2 T y0 a0 tk sum ys y1 y2 yb yt an am al ao au a1 a2 a3 a4 a5 a6 a7 a8 a9 a10 af1 af2)) hC V ⟨(Nat.le_of_ble_eq_true rfl), (Nat.le_of_ble_eq_true rfl)⟩ ⟨bv, ga, gb, rfl, rfl, (by first | assumption | omega)⟩ dX0_layFrom_145
            · skip
              have c_15 := b_nle (by omega) (by omega) c_15
              refine lv_iload_n hx hb dX0_layFrom_66 rfl (lv_at hl 4 rfl) ?_
              refine lv_iload hx hb dX0_layFrom_67 (lv_at hl 0 rfl) ?_
              refine g_callSNU (nA := 2) (host := RX7) hC V hl.1 (c_isIn l D T tk (nI k57)) w_472 (List.mem_of_getElem? (i := 7) rfl) w_2 w_471 (by decide +kernel) rfl ⟨(Nat.le_of_ble_eq_true rfl), (Nat.le_of_ble_eq_true rfl)⟩ [] rfl rfl (Nat.le_of_ble_eq_true rfl) dX0_layFrom_69 ⟨(Nat.le_of_ble_eq_true rfl), (Nat.le_of_ble_eq_true rfl)⟩ rfl (fun r w1 H locs hQ V => ?_)
              rcases hQ with ⟨rfl, rfl⟩ | ⟨rfl, rfl⟩
              · have V : gW D T A s [(y0, .inr (0, [.int bv, .ref y1, .ref y2])), (y1, .inl (T 0, 7, .inl ga)), (y2, .inl (T 0, 7, .inl gb)), (a0, .inr (5, [.int (nI an), .int am, .int al, .int ao, .int au, .ref a1, .ref a2, .ref a3, .ref a4, .ref a5, .ref a6, .ref a7, .ref a8, .ref a9, .ref a10])), (a1, .inl (T 0, 10, .inl af1)), (a2, .inl (T 0, 10, .inl af2))] H locs := V _ [] rfl rfl rfl (by decide +kernel) rfl
                show W p l e _ s m args below meth c H locs _ _ _ (F0 m 72 ls [.int (nI 1)])
                refine lv_if_ne (tgt := 139) hx hb dX0_layFrom_72 (by decide) (fun _ => ?_) (fun c => absurd (show (nI 1) = 0 from c) (by decide +kernel))
                refine lv_iinc (v := (nI (k57 + 1))) (lv' := [(5, .int (nI (k57 + 1))), (0, .ref y0), (1, .ref a0), (2, .int (nI 2)), (3, .int tk), (4, .int sum)]) hx hb dX0_layFrom_139 hl (k := 0) rfl (nI_1 _) (by decide) rfl (fun ls hl => ?_)
                refine lv_goto (tgt := 57) hx hb dX0_layFrom_142 (by decide) ?_
                exact ih_57 (k57 + 1) bv ga gb (by omega) (by assumption) (by omega) _ _ _ V (lv_sub hl [0, 1, 2, 3, 4, 5] rfl)
              · have V : gW D T A s [(y0, .inr (0, [.int bv, .ref y1, .ref y2])), (y1, .inl (T 0, 7, .inl ga)), (y2, .inl (T 0, 7, .inl gb)), (a0, .inr (5, [.int (nI an), .int am, .int al, .int ao, .int au, .ref a1, .ref a2, .ref a3, .ref a4, .ref a5, .ref a6, .ref a7, .ref a8, .ref a9, .ref a10])), (a1, .inl (T 0, 10, .inl af1)), (a2, .inl (T 0, 10, .inl af2))] H locs := V _ [] rfl rfl rfl (by decide +kernel) rfl
                show W p l e _ s m args below meth c H locs _ _ _ (F0 m 72 ls [.int (nI 0)])
                refine lv_if_ne (tgt := 139) hx hb dX0_layFrom_72 (by decide) (fun c => absurd (show (nI 0) = 0 by decide +kernel) c) (fun _ => ?_)
                refine lv_aload_n hx hb dX0_layFrom_75 rfl (lv_at hl 1 rfl) ?_
                refine lv_aload_n hx hb dX0_layFrom_76 rfl (lv_at hl 2 rfl) ?_
                refine lv_iload_n hx hb dX0_layFrom_77 rfl (lv_at hl 3 rfl) ?_
                refine lv_iload hx hb dX0_layFrom_78 (lv_at hl 0 rfl) ?_
                refine g_callVU (nA := 3) hC V hl.1 (y_closes l D T y0 a0 2 k57 bv y1 y2 gb an am al ao au a1 a2 a3 a4 a5 a6 a7 a8 a9 a10 (by first | assumption | omega) hgb (by first | assumption | omega) (by first | assumption | omega)) w_810 w_812 w_s32 w_7 w_813 (by decide +kernel) rfl ⟨(Nat.le_of_ble_eq_true rfl), (Nat.le_of_ble_eq_true rfl)⟩ 0 (ci := 0) rfl rfl [0, 2, 3] rfl rfl (Nat.le_of_ble_eq_true rfl) dX0_layFrom_80 ⟨(Nat.le_of_ble_eq_true rfl), (Nat.le_of_ble_eq_true rfl)⟩ rfl (fun r w1 H locs hQ V => ?_)
                rcases hQ with ⟨rfl, rfl⟩ | ⟨rfl, rfl⟩
                · have V : gW D T A s [(y0, .inr (0, [.int bv, .ref y1, .ref y2])), (y1, .inl (T 0, 7, .inl ga)), (y2, .inl (T 0, 7, .inl gb)), (a0, .inr (5, [.int (nI an), .int am, .int al, .int ao, .int au, .ref a1, .ref a2, .ref a3, .ref a4, .ref a5, .ref a6, .ref a7, .ref a8, .ref a9, .ref a10])), (a1, .inl (T 0, 10, .inl af1)), (a2, .inl (T 0, 10, .inl af2))] H locs := V _ [0, 1, 0] rfl rfl rfl (by decide +kernel) rfl
                  show W p l e _ s m args below meth c H locs _ _ _ (F0 m 83 ls [.int (nI 1)])
                  refine lv_if_ne (tgt := 139) hx hb dX0_layFrom_83 (by decide) (fun _ => ?_) (fun c => absurd (show (nI 1) = 0 from c) (by decide +kernel))
                  refine lv_iinc (v := (nI (k57 + 1))) (lv' := [(5, .int (nI (k57 + 1))), (0, .ref y0), (1, .ref a0), (2, .int (nI 2)), (3, .int tk), (4, .int sum)]) hx hb dX0_layFrom_139 hl (k := 0) rfl (nI_1 _) (by decide) rfl (fun ls hl => ?_)
                  refine lv_goto (tgt := 57) hx hb dX0_layFrom_142 (by decide) ?_
                  exact ih_57 (k57 + 1) bv ga gb (by omega) (by assumption) (by omega) _ _ _ V (lv_sub hl [0, 1, 2, 3, 4, 5] rfl)
                · have V : gW D T A s [(y0, .inr (0, [.int bv, .ref y1, .ref y2])), (y1, .inl (T 0, 7, .inl ga)), (y2, .inl (T 0, 7, .inl gb)), (a0, .inr (5, [.int (nI an), .int am, .int al, .int ao, .int au, .ref a1, .ref a2, .ref a3, .ref a4, .ref a5, .ref a6, .ref a7, .ref a8, .ref a9, .ref a10])), (a1, .inl (T 0, 10, .inl af1)), (a2, .inl (T 0, 10, .inl af2))] H locs := V _ [0, 1, 0] rfl rfl rfl (by decide +kernel) rfl
                  show W p l e _ s m args below meth c H locs _ _ _ (F0 m 83 ls [.int (nI 0)])
                  refine lv_if_ne (tgt := 139) hx hb dX0_layFrom_83 (by decide) (fun c => absurd (show (nI 0) = 0 by decide +kernel) c) (fun _ => ?_)
                  refine lv_aload_n hx hb dX0_layFrom_86 rfl (lv_at hl 1 rfl) ?_
                  refine g_get hC V (ci := 0) uwX0 0 rfl rfl 2 (by decide) w_215 rfl rfl dX0_layFrom_87 ?_
                  refine lv_iload_n hx hb dX0_layFrom_90 rfl (lv_at hl 3 rfl) ?_
                  refine lv_iload hx hb dX0_layFrom_91 (lv_at hl 0 rfl) ?_
                  refine g_iast hC V 2 rfl (vp_in_nI (by decide) (by decide)) (f' := (upd gb 2 (nI k57))) (by rw [nI_clamp (by decide)]) (ws' := [(y0, .inr (0, [.int bv, .ref y1, .ref y2])), (y1, .inl (T 0, 7, .inl ga)), (y2, .inl (T 0, 7, .inl (upd gb 2 (nI k57)))), (a0, .inr (5, [.int (nI an), .int am, .int al, .int ao, .int au, .ref a1, .ref a2, .ref a3, .ref a4, .ref a5, .ref a6, .ref a7, .ref a8, .ref a9, .ref a10])), (a1, .inl (T 0, 10, .inl af1)), (a2, .inl (T 0, 10, .inl af2))]) rfl dX0_layFrom_93 (fun H locs V => ?_)
                  refine lv_aload_n hx hb dX0_layFrom_94 rfl (lv_at hl 2 rfl) ?_
                  refine g_get hC V (ci := 5) uwX5 3 rfl rfl 5 (by decide) w_52 rfl rfl dX0_layFrom_95 ?_
                  refine lv_iload_n hx hb dX0_layFrom_98 rfl (lv_at hl 3 rfl) ?_
                  refine g_iald hC V 4 rfl (vp_in_nI (by decide) (by decide)) (v := (af1 2)) (congrArg _ (nI_clamp (by decide))) dX0_layFrom_99 ?_
                  refine lv_aload_n hx hb dX0_layFrom_100 rfl (lv_at hl 2 rfl) ?_
                  refine g_get hC V (ci := 5) uwX5 3 rfl rfl 6 (by decide) w_58 rfl rfl dX0_layFrom_101 ?_
                  refine lv_iload hx hb dX0_layFrom_104 (lv_at hl 0 rfl) ?_
                  refine g_iald hC V 5 rfl (vp_in_nI (by omega) (by omega)) (v := (af2 k57)) (congrArg _ (nI_clamp (by omega))) dX0_layFrom_106 ?_
                  refine lv_isub hx hb dX0_layFrom_107 ?_
                  refine va_mabs hx hb (hml.trans hl.1.symm) hown (hts _ w_814) (hts _ w_815) (hts _ w_10) (hts _ w_816) (Nat.le_of_ble_eq_true rfl) (Nat.le_of_ble_eq_true rfl) (Nat.le_of_ble_eq_true rfl) (Nat.le_of_ble_eq_true rfl) dX0_layFrom_108 ?_
                  refine lv_topi (fun x_16 ex_16 => ?_)
                  refine lv_istore (lv' := [(6, .int x_16), (5, .int (nI k57)), (0, .ref y0), (1, .ref a0), (2, .int (nI 2)), (3, .int tk), (4, .int sum)]) hx hb dX0_layFrom_111 hl (by decide) rfl (fun ls hl => ?_)
                  refine lv_aload_n hx hb dX0_layFrom_113 rfl (lv_at hl 2 rfl) ?_
                  refine lv_aload_n hx hb dX0_layFrom_114 rfl (lv_at hl 3 rfl) ?_
                  refine lv_iload_n hx hb dX0_layFrom_115 rfl (lv_at hl 4 rfl) ?_
                  refine lv_iconst (v := (nI 1)) hx hb dX0_layFrom_116 (by decide +kernel) ?_
                  refine lv_iadd hx hb dX0_layFrom_117 ?_
                  refine g_vi (y := (nI 3)) (by decide +kernel) ?_
                  refine lv_iload_n hx hb dX0_layFrom_118 rfl (lv_at hl 5 rfl) ?_
                  refine lv_iconst (v := (nI 1)) hx hb dX0_layFrom_119 (by decide +kernel) ?_
                  refine lv_iload hx hb dX0_layFrom_120 (lv_at hl 1 rfl) ?_
                  refine lv_ishl hx hb dX0_layFrom_122 ?_
                  refine lv_ior hx hb dX0_layFrom_123 ?_
                  refine lv_iload hx hb dX0_layFrom_124 (lv_at hl 6 rfl) ?_
                  refine lv_iload hx hb dX0_layFrom_126 (lv_at hl 0 rfl) ?_
                  refine lv_iadd hx hb dX0_layFrom_128 ?_
                  refine g_callV (wr := []) (nA := 4) hC V hl.1 (y_lay3 l D T y0 a0 (tk ||| ((nI 1) <<< ((nI k57) &&& 31))) (sum + x_16) bv y1 y2 ga (upd gb 2 (nI k57)) an am al ao au a1 a2 a3 a4 a5 a6 a7 a8 a9 a10 af1 af2 (by first | assumption | omega) (up_all (p := fun x => x = -1 ∨ bd x 7) hgb (fun _ => Or.inr (bd_nI (by omega))))) w_804 w_806 w_s31 w_7 w_807 (by decide +kernel) rfl ⟨(Nat.le_of_ble_eq_true rfl), (Nat.le_of_ble_eq_true rfl)⟩ 0 (ci := 0) rfl rfl [0, 1, 2, 3, 4, 5] [] rfl rfl rfl rfl (by decide) (Nat.le_of_ble_eq_true rfl) dX0_layFrom_129 ⟨(Nat.le_of_ble_eq_true rfl), (Nat.le_of_ble_eq_true rfl)⟩ rfl (fun r w1 H locs hQ V => ?_)
                  obtain ⟨bs_17, g1_18, g2_19, rfl, rfl, f_20⟩ := hQ
                  have V : gW D T A s [(y0, .inr (0, [.int bs_17, .ref y1, .ref y2])), (y1, .inl (T 0, 7, .inl g1_18)), (y2, .inl (T 0, 7, .inl g2_19)), (a0, .inr (5, [.int (nI an), .int am, .int al, .int ao, .int au, .ref a1, .ref a2, .ref a3, .ref a4, .ref a5, .ref a6, .ref a7, .ref a8, .ref a9, .ref a10])), (a1, .inl (T 0, 10, .inl af1)), (a2, .inl (T 0, 10, .inl af2))] H locs := V
                  show W p l e _ s m args below meth c H locs _ _ _ (F0 m 132 ls [])
                  have hq := up_all (p := fun x => x = -1 ∨ bd x 7) (k := 2) (x := -1) f_20 (fun _ => Or.inl rfl)
                  refine lv_aload_n hx hb dX0_layFrom_132 rfl (lv_at hl 2 rfl) ?_
                  refine g_get hC V (ci := 0) uwX0 0 rfl rfl 2 (by decide) w_215 rfl rfl dX0_layFrom_133 ?_
                  refine lv_iload_n hx hb dX0_layFrom_136 rfl (lv_at hl 4 rfl) ?_
                  refine lv_iconst (v := (-1)) hx hb dX0_layFrom_137 (by decide +kernel) ?_
                  refine g_iast hC V 2 rfl (vp_in_nI (by decide) (by decide)) (f' := (upd g2_19 2 (-1))) (by rw [nI_clamp (by decide)]) (ws' := [(y0, .inr (0, [.int bs_17, .ref y1, .ref y2])), (y1, .inl (T 0, 7, .inl g1_18)), (y2, .inl (T 0, 7, .inl (upd g2_19 2 (-1)))), (a0, .inr (5, [.int (nI an), .int am, .int al, .int ao, .int au, .ref a1, .ref a2, .ref a3, .ref a4, .ref a5, .ref a6, .ref a7, .ref a8, .ref a9, .ref a10])), (a1, .inl (T 0, 10, .inl af1)), (a2, .inl (T 0, 10, .inl af2))]) rfl dX0_layFrom_138 (fun H locs V => ?_)
                  refine lv_iinc (v := (nI (k57 + 1))) (lv' := [(5, .int (nI (k57 + 1))), (6, .int x_16), (0, .ref y0), (1, .ref a0), (2, .int (nI 2)), (3, .int tk), (4, .int sum)]) hx hb dX0_layFrom_139 hl (k := 1) rfl (nI_1 _) (by decide) rfl (fun ls hl => ?_)
                  refine lv_goto (tgt := 57) hx hb dX0_layFrom_142 (by decide) ?_
                  exact ih_57 (k57 + 1) bs_17 g1_18 (upd g2_19 2 (-1)) (by omega) (by assumption) (by omega) _ _ _ V (lv_sub hl [0, 2, 3, 4, 5, 6] rfl)
        exact L_14 _ 0 ys yb yt (by omega) h_yt (Nat.lt_succ_self _) _ _ _ V (lv_sub hl [0, 1, 2, 3, 4, 5] rfl)
    · skip
      exact g_vret (Qr := (q_y_lay2 T y0 a0 tk sum ys y1 y2 yb yt an am al ao au a1 a2 a3 a4 a5 a6 a7 a8 a9 a10 af1 af2)) hC V ⟨(Nat.le_of_ble_eq_true rfl), (Nat.le_of_ble_eq_true rfl)⟩ ⟨ys, yb, yt, rfl, rfl, (by first | assumption | omega)⟩ dX0_layFrom_17

def q_y_lay1 (T : Nat → ClassId) (y0 : Nat) (a0 : Nat) (tk : Int32) (sum : Int32) (ys : Int32) (y1 : Nat) (y2 : Nat) (yb : Nat → Int32) (yt : Nat → Int32) (an : Nat) (am : Int32) (al : Int32) (ao : Int32) (au : Int32) (a1 : Nat) (a2 : Nat) (a3 : Nat) (a4 : Nat) (a5 : Nat) (a6 : Nat) (a7 : Nat) (a8 : Nat) (a9 : Nat) (a10 : Nat) (af1 : Nat → Int32) (af2 : Nat → Int32) : Option Value → va_W → Prop := fun rr ww => (∃ (bs : Int32) (g1 : Nat → Int32) (g2 : Nat → Int32), rr = none ∧ ww = [(y0, .inr (0, [.int bs, .ref y1, .ref y2])), (y1, .inl (T 0, 7, .inl g1)), (y2, .inl (T 0, 7, .inl g2)), (a0, .inr (5, [.int (nI an), .int am, .int al, .int ao, .int au, .ref a1, .ref a2, .ref a3, .ref a4, .ref a5, .ref a6, .ref a7, .ref a8, .ref a9, .ref a10])), (a1, .inl (T 0, 10, .inl af1)), (a2, .inl (T 0, 10, .inl af2))] ∧ (∀ i, i < 7 → (g2 i = -1 ∨ bd (g2 i) 7)))
set_option maxHeartbeats 4000000 in
set_option maxRecDepth 100000 in
theorem y_lay1 (l : Launch) (D : va_G) (T : Nat → ClassId) (y0 : Nat) (a0 : Nat) (tk : Int32) (sum : Int32) (ys : Int32) (y1 : Nat) (y2 : Nat) (yb : Nat → Int32) (yt : Nat → Int32) (an : Nat) (am : Int32) (al : Int32) (ao : Int32) (au : Int32) (a1 : Nat) (a2 : Nat) (a3 : Nat) (a4 : Nat) (a5 : Nat) (a6 : Nat) (a7 : Nat) (a8 : Nat) (a9 : Nat) (a10 : Nat) (af1 : Nat → Int32) (af2 : Nat → Int32) (h_n : an ≤ 7) (h_yt : ∀ i, i < 7 → (yt i = -1 ∨ bd (yt i) 7)) : Ct l yX0_layFrom cX0_layFrom 7 none 8 0 0 D T [.ref y0, .ref a0, .int (nI 1), .int tk, .int sum] [(y0, .inr (0, [.int ys, .ref y1, .ref y2])), (y1, .inl (T 0, 7, .inl yb)), (y2, .inl (T 0, 7, .inl yt)), (a0, .inr (5, [.int (nI an), .int am, .int al, .int ao, .int au, .ref a1, .ref a2, .ref a3, .ref a4, .ref a5, .ref a6, .ref a7, .ref a8, .ref a9, .ref a10])), (a1, .inl (T 0, 10, .inl af1)), (a2, .inl (T 0, 10, .inl af2))] (q_y_lay1 T y0 a0 tk sum ys y1 y2 yb yt an am al ao au a1 a2 a3 a4 a5 a6 a7 a8 a9 a10 af1 af2) := by
  refine Ct.of (cc := cX0_layFrom) (maxL := 7) (ret := none) (by decide) (Nat.le_of_ble_eq_true rfl) ?_
  intro p e s m args below meth c A ls hC hnm V hl
  obtain ⟨hx, hb, hr, hml, hown, hts, hlocks⟩ := id hC
  generalize hH : s.heap = H at V ⊢
  clear hH
  have hl : lv_has ls 7 [(0, .ref y0), (1, .ref a0), (2, .int (nI 1)), (3, .int tk), (4, .int sum)] := hl
  generalize hlo : ([] : List Loc) = locs at V ⊢
  clear hlo
  refine lv_aload_n hx hb dX0_layFrom_0 rfl (lv_at hl 0 rfl) ?_
  refine g_get hC V (ci := 0) uwX0 0 rfl rfl 0 (by decide) w_211 rfl rfl dX0_layFrom_1 ?_
  refine lv_iconst (v := (-1)) hx hb dX0_layFrom_4 (by decide +kernel) ?_
  refine lv_icmp_eq (tgt := 18) hx hb dX0_layFrom_5 (by decide) (fun c_1 => ?_) (fun c_1 => ?_)
  · skip
    refine lv_iload_n hx hb dX0_layFrom_18 rfl (lv_at hl 2 rfl) ?_
    refine lv_aload_n hx hb dX0_layFrom_19 rfl (lv_at hl 1 rfl) ?_
    refine g_get hC V (ci := 5) uwX5 3 rfl rfl 0 (by decide) w_35 rfl rfl dX0_layFrom_20 ?_
    refine lv_icmp_ge (tgt := 32) hx hb dX0_layFrom_23 (by decide) (fun c_2 => ?_) (fun c_2 => ?_)
    · skip
      have c_2 := b_le (by omega) (by omega) c_2
      refine lv_aload_n hx hb dX0_layFrom_32 rfl (lv_at hl 0 rfl) ?_
      refine lv_iload hx hb dX0_layFrom_33 (lv_at hl 4 rfl) ?_
      refine g_put hC V (ci := 0) uwX0 tyX0 tyX0_ok nmX0 0 rfl rfl 0 (by decide) w_211 rfl rfl rfl rfl (Nat.le_of_ble_eq_true rfl) (ws' := [(y0, .inr (0, [.int sum, .ref y1, .ref y2])), (y1, .inl (T 0, 7, .inl yb)), (y2, .inl (T 0, 7, .inl yt)), (a0, .inr (5, [.int (nI an), .int am, .int al, .int ao, .int au, .ref a1, .ref a2, .ref a3, .ref a4, .ref a5, .ref a6, .ref a7, .ref a8, .ref a9, .ref a10])), (a1, .inl (T 0, 10, .inl af1)), (a2, .inl (T 0, 10, .inl af2))]) rfl dX0_layFrom_35 (fun H locs V => ?_)
      refine lv_aload_n hx hb dX0_layFrom_38 rfl (lv_at hl 0 rfl) ?_
      refine g_get hC V (ci := 0) uwX0 0 rfl rfl 2 (by decide) w_215 rfl rfl dX0_layFrom_39 ?_
      refine lv_iconst (v := (nI 0)) hx hb dX0_layFrom_42 (by decide +kernel) ?_
      refine lv_aload_n hx hb dX0_layFrom_43 rfl (lv_at hl 0 rfl) ?_
      refine g_get hC V (ci := 0) uwX0 0 rfl rfl 1 (by decide) w_213 rfl rfl dX0_layFrom_44 ?_
      refine lv_iconst (v := (nI 0)) hx hb dX0_layFrom_47 (by decide +kernel) ?_
      refine lv_bipush (v := (nI 7)) hx hb dX0_layFrom_48 (by decide +kernel) ?_
      refine g_copyi hC V hl.1 w_808 w_672 w_671 w_17 2 1 rfl rfl (by decide +kernel) (by decide +kernel) (Nat.le_of_ble_eq_true rfl) (Nat.le_of_ble_eq_true rfl) (Nat.le_of_ble_eq_true rfl) dX0_layFrom_50 (fun g_3 H locs V => ?_)
      have V : gW D T A s [(y0, .inr (0, [.int sum, .ref y1, .ref y2])), (y1, .inl (T 0, 7, .inl g_3)), (y2, .inl (T 0, 7, .inl yt)), (a0, .inr (5, [.int (nI an), .int am, .int al, .int ao, .int au, .ref a1, .ref a2, .ref a3, .ref a4, .ref a5, .ref a6, .ref a7, .ref a8, .ref a9, .ref a10])), (a1, .inl (T 0, 10, .inl af1)), (a2, .inl (T 0, 10, .inl af2))] H locs := V
      exact g_vret (Qr := (q_y_lay1 T y0 a0 tk sum ys y1 y2 yb yt an am al ao au a1 a2 a3 a4 a5 a6 a7 a8 a9 a10 af1 af2)) hC V ⟨(Nat.le_of_ble_eq_true rfl), (Nat.le_of_ble_eq_true rfl)⟩ ⟨sum, g_3, yt, rfl, rfl, (by first | assumption | omega)⟩ dX0_layFrom_53
    · skip
      have c_2 := b_nle (by omega) (by omega) c_2
      refine lv_iload_n hx hb dX0_layFrom_26 rfl (lv_at hl 2 rfl) ?_
      refine lv_bipush (v := (nI 7)) hx hb dX0_layFrom_27 (by decide +kernel) ?_
      refine lv_icmp_lt (tgt := 54) hx hb dX0_layFrom_29 (by decide) (fun _ => ?_) (fun c => absurd (show (nI 1) < (nI 7) by first | rfl | decide +kernel) c)
      refine lv_iconst (v := (nI 0)) hx hb dX0_layFrom_54 (by decide +kernel) ?_
      refine lv_istore (lv' := [(5, .int (nI 0)), (0, .ref y0), (1, .ref a0), (2, .int (nI 1)), (3, .int tk), (4, .int sum)]) hx hb dX0_layFrom_55 hl (by decide) rfl (fun ls hl => ?_)
      have L_4 : ∀ (fu : Nat) (k57 : Nat) (bv : Int32) (ga : Nat → Int32) (gb : Nat → Int32), k57 ≤ an → (∀ i, i < 7 → (gb i = -1 ∨ bd (gb i) 7)) → an - k57 < fu → ∀ (H : Heap) (locs : List Loc) (ls : Array Slot), gW D T A s [(y0, .inr (0, [.int bv, .ref y1, .ref y2])), (y1, .inl (T 0, 7, .inl ga)), (y2, .inl (T 0, 7, .inl gb)), (a0, .inr (5, [.int (nI an), .int am, .int al, .int ao, .int au, .ref a1, .ref a2, .ref a3, .ref a4, .ref a5, .ref a6, .ref a7, .ref a8, .ref a9, .ref a10])), (a1, .inl (T 0, 10, .inl af1)), (a2, .inl (T 0, 10, .inl af2))] H locs → lv_has ls 7 [(5, .int (nI k57)), (0, .ref y0), (1, .ref a0), (2, .int (nI 1)), (3, .int tk), (4, .int sum)] → W p l e (rmD 8 0 0) s m args below meth c H locs 0 0 (MQ below (gQ D A (q_y_lay1 T y0 a0 tk sum ys y1 y2 yb yt an am al ao au a1 a2 a3 a4 a5 a6 a7 a8 a9 a10 af1 af2)) args s 0 0 A) (F0 m 57 ls []) := by
        intro fu_57
        induction fu_57 with
        | zero => intro k57 bv ga gb hk57 hgb hmu; exact absurd hmu (Nat.not_lt_zero _)
        | succ fu_57 ih_57 =>
          intro k57 bv ga gb hk57 hgb hmu_57 H locs ls V hl
          refine lv_iload hx hb dX0_layFrom_57 (lv_at hl 0 rfl) ?_
          refine lv_aload_n hx hb dX0_layFrom_59 rfl (lv_at hl 2 rfl) ?_
          refine g_get hC V (ci := 5) uwX5 3 rfl rfl 0 (by decide) w_35 rfl rfl dX0_layFrom_60 ?_
          refine lv_icmp_ge (tgt := 145) hx hb dX0_layFrom_63 (by decide) (fun c_5 => ?_) (fun c_5 => ?_)
          · skip
            have c_5 := b_le (by omega) (by omega) c_5
            exact g_vret (Qr := (q_y_lay1 T y0 a0 tk sum ys y1 y2 yb yt an am al ao au a1 a2 a3 a4 a5 a6 a7 a8 a9 a10 af1 af2)) hC V ⟨(Nat.le_of_ble_eq_true rfl), (Nat.le_of_ble_eq_true rfl)⟩ ⟨bv, ga, gb, rfl, rfl, (by first | assumption | omega)⟩ dX0_layFrom_145
          · skip
            have c_5 := b_nle (by omega) (by omega) c_5
            refine lv_iload_n hx hb dX0_layFrom_66 rfl (lv_at hl 4 rfl) ?_
            refine lv_iload hx hb dX0_layFrom_67 (lv_at hl 0 rfl) ?_
            refine g_callSNU (nA := 2) (host := RX7) hC V hl.1 (c_isIn l D T tk (nI k57)) w_472 (List.mem_of_getElem? (i := 7) rfl) w_2 w_471 (by decide +kernel) rfl ⟨(Nat.le_of_ble_eq_true rfl), (Nat.le_of_ble_eq_true rfl)⟩ [] rfl rfl (Nat.le_of_ble_eq_true rfl) dX0_layFrom_69 ⟨(Nat.le_of_ble_eq_true rfl), (Nat.le_of_ble_eq_true rfl)⟩ rfl (fun r w1 H locs hQ V => ?_)
            rcases hQ with ⟨rfl, rfl⟩ | ⟨rfl, rfl⟩
            · have V : gW D T A s [(y0, .inr (0, [.int bv, .ref y1, .ref y2])), (y1, .inl (T 0, 7, .inl ga)), (y2, .inl (T 0, 7, .inl gb)), (a0, .inr (5, [.int (nI an), .int am, .int al, .int ao, .int au, .ref a1, .ref a2, .ref a3, .ref a4, .ref a5, .ref a6, .ref a7, .ref a8, .ref a9, .ref a10])), (a1, .inl (T 0, 10, .inl af1)), (a2, .inl (T 0, 10, .inl af2))] H locs := V _ [] rfl rfl rfl (by decide +kernel) rfl
              show W p l e _ s m args below meth c H locs _ _ _ (F0 m 72 ls [.int (nI 1)])
              refine lv_if_ne (tgt := 139) hx hb dX0_layFrom_72 (by decide) (fun _ => ?_) (fun c => absurd (show (nI 1) = 0 from c) (by decide +kernel))
              refine lv_iinc (v := (nI (k57 + 1))) (lv' := [(5, .int (nI (k57 + 1))), (0, .ref y0), (1, .ref a0), (2, .int (nI 1)), (3, .int tk), (4, .int sum)]) hx hb dX0_layFrom_139 hl (k := 0) rfl (nI_1 _) (by decide) rfl (fun ls hl => ?_)
              refine lv_goto (tgt := 57) hx hb dX0_layFrom_142 (by decide) ?_
              exact ih_57 (k57 + 1) bv ga gb (by omega) (by assumption) (by omega) _ _ _ V (lv_sub hl [0, 1, 2, 3, 4, 5] rfl)
            · have V : gW D T A s [(y0, .inr (0, [.int bv, .ref y1, .ref y2])), (y1, .inl (T 0, 7, .inl ga)), (y2, .inl (T 0, 7, .inl gb)), (a0, .inr (5, [.int (nI an), .int am, .int al, .int ao, .int au, .ref a1, .ref a2, .ref a3, .ref a4, .ref a5, .ref a6, .ref a7, .ref a8, .ref a9, .ref a10])), (a1, .inl (T 0, 10, .inl af1)), (a2, .inl (T 0, 10, .inl af2))] H locs := V _ [] rfl rfl rfl (by decide +kernel) rfl
              show W p l e _ s m args below meth c H locs _ _ _ (F0 m 72 ls [.int (nI 0)])
              refine lv_if_ne (tgt := 139) hx hb dX0_layFrom_72 (by decide) (fun c => absurd (show (nI 0) = 0 by decide +kernel) c) (fun _ => ?_)
              refine lv_aload_n hx hb dX0_layFrom_75 rfl (lv_at hl 1 rfl) ?_
              refine lv_aload_n hx hb dX0_layFrom_76 rfl (lv_at hl 2 rfl) ?_
              refine lv_iload_n hx hb dX0_layFrom_77 rfl (lv_at hl 3 rfl) ?_
              refine lv_iload hx hb dX0_layFrom_78 (lv_at hl 0 rfl) ?_
              refine g_callVU (nA := 3) hC V hl.1 (y_closes l D T y0 a0 1 k57 bv y1 y2 gb an am al ao au a1 a2 a3 a4 a5 a6 a7 a8 a9 a10 (by first | assumption | omega) hgb (by first | assumption | omega) (by first | assumption | omega)) w_810 w_812 w_s32 w_7 w_813 (by decide +kernel) rfl ⟨(Nat.le_of_ble_eq_true rfl), (Nat.le_of_ble_eq_true rfl)⟩ 0 (ci := 0) rfl rfl [0, 2, 3] rfl rfl (Nat.le_of_ble_eq_true rfl) dX0_layFrom_80 ⟨(Nat.le_of_ble_eq_true rfl), (Nat.le_of_ble_eq_true rfl)⟩ rfl (fun r w1 H locs hQ V => ?_)
              rcases hQ with ⟨rfl, rfl⟩ | ⟨rfl, rfl⟩
              · have V : gW D T A s [(y0, .inr (0, [.int bv, .ref y1, .ref y2])), (y1, .inl (T 0, 7, .inl ga)), (y2, .inl (T 0, 7, .inl gb)), (a0, .inr (5, [.int (nI an), .int am, .int al, .int ao, .int au, .ref a1, .ref a2, .ref a3, .ref a4, .ref a5, .ref a6, .ref a7, .ref a8, .ref a9, .ref a10])), (a1, .inl (T 0, 10, .inl af1)), (a2, .inl (T 0, 10, .inl af2))] H locs := V _ [0, 1, 0] rfl rfl rfl (by decide +kernel) rfl
                show W p l e _ s m args below meth c H locs _ _ _ (F0 m 83 ls [.int (nI 1)])
                refine lv_if_ne (tgt := 139) hx hb dX0_layFrom_83 (by decide) (fun _ => ?_) (fun c => absurd (show (nI 1) = 0 from c) (by decide +kernel))
                refine lv_iinc (v := (nI (k57 + 1))) (lv' := [(5, .int (nI (k57 + 1))), (0, .ref y0), (1, .ref a0), (2, .int (nI 1)), (3, .int tk), (4, .int sum)]) hx hb dX0_layFrom_139 hl (k := 0) rfl (nI_1 _) (by decide) rfl (fun ls hl => ?_)
                refine lv_goto (tgt := 57) hx hb dX0_layFrom_142 (by decide) ?_
                exact ih_57 (k57 + 1) bv ga gb (by omega) (by assumption) (by omega) _ _ _ V (lv_sub hl [0, 1, 2, 3, 4, 5] rfl)
              · have V : gW D T A s [(y0, .inr (0, [.int bv, .ref y1, .ref y2])), (y1, .inl (T 0, 7, .inl ga)), (y2, .inl (T 0, 7, .inl gb)), (a0, .inr (5, [.int (nI an), .int am, .int al, .int ao, .int au, .ref a1, .ref a2, .ref a3, .ref a4, .ref a5, .ref a6, .ref a7, .ref a8, .ref a9, .ref a10])), (a1, .inl (T 0, 10, .inl af1)), (a2, .inl (T 0, 10, .inl af2))] H locs := V _ [0, 1, 0] rfl rfl rfl (by decide +kernel) rfl
                show W p l e _ s m args below meth c H locs _ _ _ (F0 m 83 ls [.int (nI 0)])
                refine lv_if_ne (tgt := 139) hx hb dX0_layFrom_83 (by decide) (fun c => absurd (show (nI 0) = 0 by decide +kernel) c) (fun _ => ?_)
                refine lv_aload_n hx hb dX0_layFrom_86 rfl (lv_at hl 1 rfl) ?_
                refine g_get hC V (ci := 0) uwX0 0 rfl rfl 2 (by decide) w_215 rfl rfl dX0_layFrom_87 ?_
                refine lv_iload_n hx hb dX0_layFrom_90 rfl (lv_at hl 3 rfl) ?_
                refine lv_iload hx hb dX0_layFrom_91 (lv_at hl 0 rfl) ?_
                refine g_iast hC V 2 rfl (vp_in_nI (by decide) (by decide)) (f' := (upd gb 1 (nI k57))) (by rw [nI_clamp (by decide)]) (ws' := [(y0, .inr (0, [.int bv, .ref y1, .ref y2])), (y1, .inl (T 0, 7, .inl ga)), (y2, .inl (T 0, 7, .inl (upd gb 1 (nI k57)))), (a0, .inr (5, [.int (nI an), .int am, .int al, .int ao, .int au, .ref a1, .ref a2, .ref a3, .ref a4, .ref a5, .ref a6, .ref a7, .ref a8, .ref a9, .ref a10])), (a1, .inl (T 0, 10, .inl af1)), (a2, .inl (T 0, 10, .inl af2))]) rfl dX0_layFrom_93 (fun H locs V => ?_)
                refine lv_aload_n hx hb dX0_layFrom_94 rfl (lv_at hl 2 rfl) ?_
                refine g_get hC V (ci := 5) uwX5 3 rfl rfl 5 (by decide) w_52 rfl rfl dX0_layFrom_95 ?_
                refine lv_iload_n hx hb dX0_layFrom_98 rfl (lv_at hl 3 rfl) ?_
                refine g_iald hC V 4 rfl (vp_in_nI (by decide) (by decide)) (v := (af1 1)) (congrArg _ (nI_clamp (by decide))) dX0_layFrom_99 ?_
                refine lv_aload_n hx hb dX0_layFrom_100 rfl (lv_at hl 2 rfl) ?_
                refine g_get hC V (ci := 5) uwX5 3 rfl rfl 6 (by decide) w_58 rfl rfl dX0_layFrom_101 ?_
                refine lv_iload hx hb dX0_layFrom_104 (lv_at hl 0 rfl) ?_
                refine g_iald hC V 5 rfl (vp_in_nI (by omega) (by omega)) (v := (af2 k57)) (congrArg _ (nI_clamp (by omega))) dX0_layFrom_106 ?_
                refine lv_isub hx hb dX0_layFrom_107 ?_
                refine va_mabs hx hb (hml.trans hl.1.symm) hown (hts _ w_814) (hts _ w_815) (hts _ w_10) (hts _ w_816) (Nat.le_of_ble_eq_true rfl) (Nat.le_of_ble_eq_true rfl) (Nat.le_of_ble_eq_true rfl) (Nat.le_of_ble_eq_true rfl) dX0_layFrom_108 ?_
                refine lv_topi (fun x_6 ex_6 => ?_)
                refine lv_istore (lv' := [(6, .int x_6), (5, .int (nI k57)), (0, .ref y0), (1, .ref a0), (2, .int (nI 1)), (3, .int tk), (4, .int sum)]) hx hb dX0_layFrom_111 hl (by decide) rfl (fun ls hl => ?_)
                refine lv_aload_n hx hb dX0_layFrom_113 rfl (lv_at hl 2 rfl) ?_
                refine lv_aload_n hx hb dX0_layFrom_114 rfl (lv_at hl 3 rfl) ?_
                refine lv_iload_n hx hb dX0_layFrom_115 rfl (lv_at hl 4 rfl) ?_
                refine lv_iconst (v := (nI 1)) hx hb dX0_layFrom_116 (by decide +kernel) ?_
                refine lv_iadd hx hb dX0_layFrom_117 ?_
                refine g_vi (y := (nI 2)) (by decide +kernel) ?_
                refine lv_iload_n hx hb dX0_layFrom_118 rfl (lv_at hl 5 rfl) ?_
                refine lv_iconst (v := (nI 1)) hx hb dX0_layFrom_119 (by decide +kernel) ?_
                refine lv_iload hx hb dX0_layFrom_120 (lv_at hl 1 rfl) ?_
                refine lv_ishl hx hb dX0_layFrom_122 ?_
                refine lv_ior hx hb dX0_layFrom_123 ?_
                refine lv_iload hx hb dX0_layFrom_124 (lv_at hl 6 rfl) ?_
                refine lv_iload hx hb dX0_layFrom_126 (lv_at hl 0 rfl) ?_
                refine lv_iadd hx hb dX0_layFrom_128 ?_
                refine g_callV (wr := []) (nA := 4) hC V hl.1 (y_lay2 l D T y0 a0 (tk ||| ((nI 1) <<< ((nI k57) &&& 31))) (sum + x_6) bv y1 y2 ga (upd gb 1 (nI k57)) an am al ao au a1 a2 a3 a4 a5 a6 a7 a8 a9 a10 af1 af2 (by first | assumption | omega) (up_all (p := fun x => x = -1 ∨ bd x 7) hgb (fun _ => Or.inr (bd_nI (by omega))))) w_804 w_806 w_s31 w_7 w_807 (by decide +kernel) rfl ⟨(Nat.le_of_ble_eq_true rfl), (Nat.le_of_ble_eq_true rfl)⟩ 0 (ci := 0) rfl rfl [0, 1, 2, 3, 4, 5] [] rfl rfl rfl rfl (by decide) (Nat.le_of_ble_eq_true rfl) dX0_layFrom_129 ⟨(Nat.le_of_ble_eq_true rfl), (Nat.le_of_ble_eq_true rfl)⟩ rfl (fun r w1 H locs hQ V => ?_)
                obtain ⟨bs_7, g1_8, g2_9, rfl, rfl, f_10⟩ := hQ
                have V : gW D T A s [(y0, .inr (0, [.int bs_7, .ref y1, .ref y2])), (y1, .inl (T 0, 7, .inl g1_8)), (y2, .inl (T 0, 7, .inl g2_9)), (a0, .inr (5, [.int (nI an), .int am, .int al, .int ao, .int au, .ref a1, .ref a2, .ref a3, .ref a4, .ref a5, .ref a6, .ref a7, .ref a8, .ref a9, .ref a10])), (a1, .inl (T 0, 10, .inl af1)), (a2, .inl (T 0, 10, .inl af2))] H locs := V
                show W p l e _ s m args below meth c H locs _ _ _ (F0 m 132 ls [])
                have hq := up_all (p := fun x => x = -1 ∨ bd x 7) (k := 1) (x := -1) f_10 (fun _ => Or.inl rfl)
                refine lv_aload_n hx hb dX0_layFrom_132 rfl (lv_at hl 2 rfl) ?_
                refine g_get hC V (ci := 0) uwX0 0 rfl rfl 2 (by decide) w_215 rfl rfl dX0_layFrom_133 ?_
                refine lv_iload_n hx hb dX0_layFrom_136 rfl (lv_at hl 4 rfl) ?_
                refine lv_iconst (v := (-1)) hx hb dX0_layFrom_137 (by decide +kernel) ?_
                refine g_iast hC V 2 rfl (vp_in_nI (by decide) (by decide)) (f' := (upd g2_9 1 (-1))) (by rw [nI_clamp (by decide)]) (ws' := [(y0, .inr (0, [.int bs_7, .ref y1, .ref y2])), (y1, .inl (T 0, 7, .inl g1_8)), (y2, .inl (T 0, 7, .inl (upd g2_9 1 (-1)))), (a0, .inr (5, [.int (nI an), .int am, .int al, .int ao, .int au, .ref a1, .ref a2, .ref a3, .ref a4, .ref a5, .ref a6, .ref a7, .ref a8, .ref a9, .ref a10])), (a1, .inl (T 0, 10, .inl af1)), (a2, .inl (T 0, 10, .inl af2))]) rfl dX0_layFrom_138 (fun H locs V => ?_)
                refine lv_iinc (v := (nI (k57 + 1))) (lv' := [(5, .int (nI (k57 + 1))), (6, .int x_6), (0, .ref y0), (1, .ref a0), (2, .int (nI 1)), (3, .int tk), (4, .int sum)]) hx hb dX0_layFrom_139 hl (k := 1) rfl (nI_1 _) (by decide) rfl (fun ls hl => ?_)
                refine lv_goto (tgt := 57) hx hb dX0_layFrom_142 (by decide) ?_
                exact ih_57 (k57 + 1) bs_7 g1_8 (upd g2_9 1 (-1)) (by omega) (by assumption) (by omega) _ _ _ V (lv_sub hl [0, 2, 3, 4, 5, 6] rfl)
      exact L_4 _ 0 ys yb yt (by omega) h_yt (Nat.lt_succ_self _) _ _ _ V (lv_sub hl [0, 1, 2, 3, 4, 5] rfl)
  · skip
    refine lv_iload hx hb dX0_layFrom_8 (lv_at hl 4 rfl) ?_
    refine lv_aload_n hx hb dX0_layFrom_10 rfl (lv_at hl 0 rfl) ?_
    refine g_get hC V (ci := 0) uwX0 0 rfl rfl 0 (by decide) w_211 rfl rfl dX0_layFrom_11 ?_
    refine lv_icmp_lt (tgt := 18) hx hb dX0_layFrom_14 (by decide) (fun c_11 => ?_) (fun c_11 => ?_)
    · skip
      refine lv_iload_n hx hb dX0_layFrom_18 rfl (lv_at hl 2 rfl) ?_
      refine lv_aload_n hx hb dX0_layFrom_19 rfl (lv_at hl 1 rfl) ?_
      refine g_get hC V (ci := 5) uwX5 3 rfl rfl 0 (by decide) w_35 rfl rfl dX0_layFrom_20 ?_
      refine lv_icmp_ge (tgt := 32) hx hb dX0_layFrom_23 (by decide) (fun c_12 => ?_) (fun c_12 => ?_)
      · skip
        have c_12 := b_le (by omega) (by omega) c_12
        refine lv_aload_n hx hb dX0_layFrom_32 rfl (lv_at hl 0 rfl) ?_
        refine lv_iload hx hb dX0_layFrom_33 (lv_at hl 4 rfl) ?_
        refine g_put hC V (ci := 0) uwX0 tyX0 tyX0_ok nmX0 0 rfl rfl 0 (by decide) w_211 rfl rfl rfl rfl (Nat.le_of_ble_eq_true rfl) (ws' := [(y0, .inr (0, [.int sum, .ref y1, .ref y2])), (y1, .inl (T 0, 7, .inl yb)), (y2, .inl (T 0, 7, .inl yt)), (a0, .inr (5, [.int (nI an), .int am, .int al, .int ao, .int au, .ref a1, .ref a2, .ref a3, .ref a4, .ref a5, .ref a6, .ref a7, .ref a8, .ref a9, .ref a10])), (a1, .inl (T 0, 10, .inl af1)), (a2, .inl (T 0, 10, .inl af2))]) rfl dX0_layFrom_35 (fun H locs V => ?_)
        refine lv_aload_n hx hb dX0_layFrom_38 rfl (lv_at hl 0 rfl) ?_
        refine g_get hC V (ci := 0) uwX0 0 rfl rfl 2 (by decide) w_215 rfl rfl dX0_layFrom_39 ?_
        refine lv_iconst (v := (nI 0)) hx hb dX0_layFrom_42 (by decide +kernel) ?_
        refine lv_aload_n hx hb dX0_layFrom_43 rfl (lv_at hl 0 rfl) ?_
        refine g_get hC V (ci := 0) uwX0 0 rfl rfl 1 (by decide) w_213 rfl rfl dX0_layFrom_44 ?_
        refine lv_iconst (v := (nI 0)) hx hb dX0_layFrom_47 (by decide +kernel) ?_
        refine lv_bipush (v := (nI 7)) hx hb dX0_layFrom_48 (by decide +kernel) ?_
        refine g_copyi hC V hl.1 w_808 w_672 w_671 w_17 2 1 rfl rfl (by decide +kernel) (by decide +kernel) (Nat.le_of_ble_eq_true rfl) (Nat.le_of_ble_eq_true rfl) (Nat.le_of_ble_eq_true rfl) dX0_layFrom_50 (fun g_13 H locs V => ?_)
        have V : gW D T A s [(y0, .inr (0, [.int sum, .ref y1, .ref y2])), (y1, .inl (T 0, 7, .inl g_13)), (y2, .inl (T 0, 7, .inl yt)), (a0, .inr (5, [.int (nI an), .int am, .int al, .int ao, .int au, .ref a1, .ref a2, .ref a3, .ref a4, .ref a5, .ref a6, .ref a7, .ref a8, .ref a9, .ref a10])), (a1, .inl (T 0, 10, .inl af1)), (a2, .inl (T 0, 10, .inl af2))] H locs := V
        exact g_vret (Qr := (q_y_lay1 T y0 a0 tk sum ys y1 y2 yb yt an am al ao au a1 a2 a3 a4 a5 a6 a7 a8 a9 a10 af1 af2)) hC V ⟨(Nat.le_of_ble_eq_true rfl), (Nat.le_of_ble_eq_true rfl)⟩ ⟨sum, g_13, yt, rfl, rfl, (by first | assumption | omega)⟩ dX0_layFrom_53
      · skip
        have c_12 := b_nle (by omega) (by omega) c_12
        refine lv_iload_n hx hb dX0_layFrom_26 rfl (lv_at hl 2 rfl) ?_
        refine lv_bipush (v := (nI 7)) hx hb dX0_layFrom_27 (by decide +kernel) ?_
        refine lv_icmp_lt (tgt := 54) hx hb dX0_layFrom_29 (by decide) (fun _ => ?_) (fun c => absurd (show (nI 1) < (nI 7) by first | rfl | decide +kernel) c)
        refine lv_iconst (v := (nI 0)) hx hb dX0_layFrom_54 (by decide +kernel) ?_
        refine lv_istore (lv' := [(5, .int (nI 0)), (0, .ref y0), (1, .ref a0), (2, .int (nI 1)), (3, .int tk), (4, .int sum)]) hx hb dX0_layFrom_55 hl (by decide) rfl (fun ls hl => ?_)
        have L_14 : ∀ (fu : Nat) (k57 : Nat) (bv : Int32) (ga : Nat → Int32) (gb : Nat → Int32), k57 ≤ an → (∀ i, i < 7 → (gb i = -1 ∨ bd (gb i) 7)) → an - k57 < fu → ∀ (H : Heap) (locs : List Loc) (ls : Array Slot), gW D T A s [(y0, .inr (0, [.int bv, .ref y1, .ref y2])), (y1, .inl (T 0, 7, .inl ga)), (y2, .inl (T 0, 7, .inl gb)), (a0, .inr (5, [.int (nI an), .int am, .int al, .int ao, .int au, .ref a1, .ref a2, .ref a3, .ref a4, .ref a5, .ref a6, .ref a7, .ref a8, .ref a9, .ref a10])), (a1, .inl (T 0, 10, .inl af1)), (a2, .inl (T 0, 10, .inl af2))] H locs → lv_has ls 7 [(5, .int (nI k57)), (0, .ref y0), (1, .ref a0), (2, .int (nI 1)), (3, .int tk), (4, .int sum)] → W p l e (rmD 8 0 0) s m args below meth c H locs 0 0 (MQ below (gQ D A (q_y_lay1 T y0 a0 tk sum ys y1 y2 yb yt an am al ao au a1 a2 a3 a4 a5 a6 a7 a8 a9 a10 af1 af2)) args s 0 0 A) (F0 m 57 ls []) := by
          intro fu_57
          induction fu_57 with
          | zero => intro k57 bv ga gb hk57 hgb hmu; exact absurd hmu (Nat.not_lt_zero _)
          | succ fu_57 ih_57 =>
            intro k57 bv ga gb hk57 hgb hmu_57 H locs ls V hl
            refine lv_iload hx hb dX0_layFrom_57 (lv_at hl 0 rfl) ?_
            refine lv_aload_n hx hb dX0_layFrom_59 rfl (lv_at hl 2 rfl) ?_
            refine g_get hC V (ci := 5) uwX5 3 rfl rfl 0 (by decide) w_35 rfl rfl dX0_layFrom_60 ?_
            refine lv_icmp_ge (tgt := 145) hx hb dX0_layFrom_63 (by decide) (fun c_15 => ?_) (fun c_15 => ?_)
            · skip
              have c_15 := b_le (by omega) (by omega) c_15
              exact g_vret (Qr := (q_y_lay1 T y0 a0 tk sum ys y1 y2 yb yt an am al ao au a1 a2 a3 a4 a5 a6 a7 a8 a9 a10 af1 af2)) hC V ⟨(Nat.le_of_ble_eq_true rfl), (Nat.le_of_ble_eq_true rfl)⟩ ⟨bv, ga, gb, rfl, rfl, (by first | assumption | omega)⟩ dX0_layFrom_145
            · skip
              have c_15 := b_nle (by omega) (by omega) c_15
              refine lv_iload_n hx hb dX0_layFrom_66 rfl (lv_at hl 4 rfl) ?_
              refine lv_iload hx hb dX0_layFrom_67 (lv_at hl 0 rfl) ?_
              refine g_callSNU (nA := 2) (host := RX7) hC V hl.1 (c_isIn l D T tk (nI k57)) w_472 (List.mem_of_getElem? (i := 7) rfl) w_2 w_471 (by decide +kernel) rfl ⟨(Nat.le_of_ble_eq_true rfl), (Nat.le_of_ble_eq_true rfl)⟩ [] rfl rfl (Nat.le_of_ble_eq_true rfl) dX0_layFrom_69 ⟨(Nat.le_of_ble_eq_true rfl), (Nat.le_of_ble_eq_true rfl)⟩ rfl (fun r w1 H locs hQ V => ?_)
              rcases hQ with ⟨rfl, rfl⟩ | ⟨rfl, rfl⟩
              · have V : gW D T A s [(y0, .inr (0, [.int bv, .ref y1, .ref y2])), (y1, .inl (T 0, 7, .inl ga)), (y2, .inl (T 0, 7, .inl gb)), (a0, .inr (5, [.int (nI an), .int am, .int al, .int ao, .int au, .ref a1, .ref a2, .ref a3, .ref a4, .ref a5, .ref a6, .ref a7, .ref a8, .ref a9, .ref a10])), (a1, .inl (T 0, 10, .inl af1)), (a2, .inl (T 0, 10, .inl af2))] H locs := V _ [] rfl rfl rfl (by decide +kernel) rfl
                show W p l e _ s m args below meth c H locs _ _ _ (F0 m 72 ls [.int (nI 1)])
                refine lv_if_ne (tgt := 139) hx hb dX0_layFrom_72 (by decide) (fun _ => ?_) (fun c => absurd (show (nI 1) = 0 from c) (by decide +kernel))
                refine lv_iinc (v := (nI (k57 + 1))) (lv' := [(5, .int (nI (k57 + 1))), (0, .ref y0), (1, .ref a0), (2, .int (nI 1)), (3, .int tk), (4, .int sum)]) hx hb dX0_layFrom_139 hl (k := 0) rfl (nI_1 _) (by decide) rfl (fun ls hl => ?_)
                refine lv_goto (tgt := 57) hx hb dX0_layFrom_142 (by decide) ?_
                exact ih_57 (k57 + 1) bv ga gb (by omega) (by assumption) (by omega) _ _ _ V (lv_sub hl [0, 1, 2, 3, 4, 5] rfl)
              · have V : gW D T A s [(y0, .inr (0, [.int bv, .ref y1, .ref y2])), (y1, .inl (T 0, 7, .inl ga)), (y2, .inl (T 0, 7, .inl gb)), (a0, .inr (5, [.int (nI an), .int am, .int al, .int ao, .int au, .ref a1, .ref a2, .ref a3, .ref a4, .ref a5, .ref a6, .ref a7, .ref a8, .ref a9, .ref a10])), (a1, .inl (T 0, 10, .inl af1)), (a2, .inl (T 0, 10, .inl af2))] H locs := V _ [] rfl rfl rfl (by decide +kernel) rfl
                show W p l e _ s m args below meth c H locs _ _ _ (F0 m 72 ls [.int (nI 0)])
                refine lv_if_ne (tgt := 139) hx hb dX0_layFrom_72 (by decide) (fun c => absurd (show (nI 0) = 0 by decide +kernel) c) (fun _ => ?_)
                refine lv_aload_n hx hb dX0_layFrom_75 rfl (lv_at hl 1 rfl) ?_
                refine lv_aload_n hx hb dX0_layFrom_76 rfl (lv_at hl 2 rfl) ?_
                refine lv_iload_n hx hb dX0_layFrom_77 rfl (lv_at hl 3 rfl) ?_
                refine lv_iload hx hb dX0_layFrom_78 (lv_at hl 0 rfl) ?_
                refine g_callVU (nA := 3) hC V hl.1 (y_closes l D T y0 a0 1 k57 bv y1 y2 gb an am al ao au a1 a2 a3 a4 a5 a6 a7 a8 a9 a10 (by first | assumption | omega) hgb (by first | assumption | omega) (by first | assumption | omega)) w_810 w_812 w_s32 w_7 w_813 (by decide +kernel) rfl ⟨(Nat.le_of_ble_eq_true rfl), (Nat.le_of_ble_eq_true rfl)⟩ 0 (ci := 0) rfl rfl [0, 2, 3] rfl rfl (Nat.le_of_ble_eq_true rfl) dX0_layFrom_80 ⟨(Nat.le_of_ble_eq_true rfl), (Nat.le_of_ble_eq_true rfl)⟩ rfl (fun r w1 H locs hQ V => ?_)
                rcases hQ with ⟨rfl, rfl⟩ | ⟨rfl, rfl⟩
                · have V : gW D T A s [(y0, .inr (0, [.int bv, .ref y1, .ref y2])), (y1, .inl (T 0, 7, .inl ga)), (y2, .inl (T 0, 7, .inl gb)), (a0, .inr (5, [.int (nI an), .int am, .int al, .int ao, .int au, .ref a1, .ref a2, .ref a3, .ref a4, .ref a5, .ref a6, .ref a7, .ref a8, .ref a9, .ref a10])), (a1, .inl (T 0, 10, .inl af1)), (a2, .inl (T 0, 10, .inl af2))] H locs := V _ [0, 1, 0] rfl rfl rfl (by decide +kernel) rfl
                  show W p l e _ s m args below meth c H locs _ _ _ (F0 m 83 ls [.int (nI 1)])
                  refine lv_if_ne (tgt := 139) hx hb dX0_layFrom_83 (by decide) (fun _ => ?_) (fun c => absurd (show (nI 1) = 0 from c) (by decide +kernel))
                  refine lv_iinc (v := (nI (k57 + 1))) (lv' := [(5, .int (nI (k57 + 1))), (0, .ref y0), (1, .ref a0), (2, .int (nI 1)), (3, .int tk), (4, .int sum)]) hx hb dX0_layFrom_139 hl (k := 0) rfl (nI_1 _) (by decide) rfl (fun ls hl => ?_)
                  refine lv_goto (tgt := 57) hx hb dX0_layFrom_142 (by decide) ?_
                  exact ih_57 (k57 + 1) bv ga gb (by omega) (by assumption) (by omega) _ _ _ V (lv_sub hl [0, 1, 2, 3, 4, 5] rfl)
                · have V : gW D T A s [(y0, .inr (0, [.int bv, .ref y1, .ref y2])), (y1, .inl (T 0, 7, .inl ga)), (y2, .inl (T 0, 7, .inl gb)), (a0, .inr (5, [.int (nI an), .int am, .int al, .int ao, .int au, .ref a1, .ref a2, .ref a3, .ref a4, .ref a5, .ref a6, .ref a7, .ref a8, .ref a9, .ref a10])), (a1, .inl (T 0, 10, .inl af1)), (a2, .inl (T 0, 10, .inl af2))] H locs := V _ [0, 1, 0] rfl rfl rfl (by decide +kernel) rfl
                  show W p l e _ s m args below meth c H locs _ _ _ (F0 m 83 ls [.int (nI 0)])
                  refine lv_if_ne (tgt := 139) hx hb dX0_layFrom_83 (by decide) (fun c => absurd (show (nI 0) = 0 by decide +kernel) c) (fun _ => ?_)
                  refine lv_aload_n hx hb dX0_layFrom_86 rfl (lv_at hl 1 rfl) ?_
                  refine g_get hC V (ci := 0) uwX0 0 rfl rfl 2 (by decide) w_215 rfl rfl dX0_layFrom_87 ?_
                  refine lv_iload_n hx hb dX0_layFrom_90 rfl (lv_at hl 3 rfl) ?_
                  refine lv_iload hx hb dX0_layFrom_91 (lv_at hl 0 rfl) ?_
                  refine g_iast hC V 2 rfl (vp_in_nI (by decide) (by decide)) (f' := (upd gb 1 (nI k57))) (by rw [nI_clamp (by decide)]) (ws' := [(y0, .inr (0, [.int bv, .ref y1, .ref y2])), (y1, .inl (T 0, 7, .inl ga)), (y2, .inl (T 0, 7, .inl (upd gb 1 (nI k57)))), (a0, .inr (5, [.int (nI an), .int am, .int al, .int ao, .int au, .ref a1, .ref a2, .ref a3, .ref a4, .ref a5, .ref a6, .ref a7, .ref a8, .ref a9, .ref a10])), (a1, .inl (T 0, 10, .inl af1)), (a2, .inl (T 0, 10, .inl af2))]) rfl dX0_layFrom_93 (fun H locs V => ?_)
                  refine lv_aload_n hx hb dX0_layFrom_94 rfl (lv_at hl 2 rfl) ?_
                  refine g_get hC V (ci := 5) uwX5 3 rfl rfl 5 (by decide) w_52 rfl rfl dX0_layFrom_95 ?_
                  refine lv_iload_n hx hb dX0_layFrom_98 rfl (lv_at hl 3 rfl) ?_
                  refine g_iald hC V 4 rfl (vp_in_nI (by decide) (by decide)) (v := (af1 1)) (congrArg _ (nI_clamp (by decide))) dX0_layFrom_99 ?_
                  refine lv_aload_n hx hb dX0_layFrom_100 rfl (lv_at hl 2 rfl) ?_
                  refine g_get hC V (ci := 5) uwX5 3 rfl rfl 6 (by decide) w_58 rfl rfl dX0_layFrom_101 ?_
                  refine lv_iload hx hb dX0_layFrom_104 (lv_at hl 0 rfl) ?_
                  refine g_iald hC V 5 rfl (vp_in_nI (by omega) (by omega)) (v := (af2 k57)) (congrArg _ (nI_clamp (by omega))) dX0_layFrom_106 ?_
                  refine lv_isub hx hb dX0_layFrom_107 ?_
                  refine va_mabs hx hb (hml.trans hl.1.symm) hown (hts _ w_814) (hts _ w_815) (hts _ w_10) (hts _ w_816) (Nat.le_of_ble_eq_true rfl) (Nat.le_of_ble_eq_true rfl) (Nat.le_of_ble_eq_true rfl) (Nat.le_of_ble_eq_true rfl) dX0_layFrom_108 ?_
                  refine lv_topi (fun x_16 ex_16 => ?_)
                  refine lv_istore (lv' := [(6, .int x_16), (5, .int (nI k57)), (0, .ref y0), (1, .ref a0), (2, .int (nI 1)), (3, .int tk), (4, .int sum)]) hx hb dX0_layFrom_111 hl (by decide) rfl (fun ls hl => ?_)
                  refine lv_aload_n hx hb dX0_layFrom_113 rfl (lv_at hl 2 rfl) ?_
                  refine lv_aload_n hx hb dX0_layFrom_114 rfl (lv_at hl 3 rfl) ?_
                  refine lv_iload_n hx hb dX0_layFrom_115 rfl (lv_at hl 4 rfl) ?_
                  refine lv_iconst (v := (nI 1)) hx hb dX0_layFrom_116 (by decide +kernel) ?_
                  refine lv_iadd hx hb dX0_layFrom_117 ?_
                  refine g_vi (y := (nI 2)) (by decide +kernel) ?_
                  refine lv_iload_n hx hb dX0_layFrom_118 rfl (lv_at hl 5 rfl) ?_
                  refine lv_iconst (v := (nI 1)) hx hb dX0_layFrom_119 (by decide +kernel) ?_
                  refine lv_iload hx hb dX0_layFrom_120 (lv_at hl 1 rfl) ?_
                  refine lv_ishl hx hb dX0_layFrom_122 ?_
                  refine lv_ior hx hb dX0_layFrom_123 ?_
                  refine lv_iload hx hb dX0_layFrom_124 (lv_at hl 6 rfl) ?_
                  refine lv_iload hx hb dX0_layFrom_126 (lv_at hl 0 rfl) ?_
                  refine lv_iadd hx hb dX0_layFrom_128 ?_
                  refine g_callV (wr := []) (nA := 4) hC V hl.1 (y_lay2 l D T y0 a0 (tk ||| ((nI 1) <<< ((nI k57) &&& 31))) (sum + x_16) bv y1 y2 ga (upd gb 1 (nI k57)) an am al ao au a1 a2 a3 a4 a5 a6 a7 a8 a9 a10 af1 af2 (by first | assumption | omega) (up_all (p := fun x => x = -1 ∨ bd x 7) hgb (fun _ => Or.inr (bd_nI (by omega))))) w_804 w_806 w_s31 w_7 w_807 (by decide +kernel) rfl ⟨(Nat.le_of_ble_eq_true rfl), (Nat.le_of_ble_eq_true rfl)⟩ 0 (ci := 0) rfl rfl [0, 1, 2, 3, 4, 5] [] rfl rfl rfl rfl (by decide) (Nat.le_of_ble_eq_true rfl) dX0_layFrom_129 ⟨(Nat.le_of_ble_eq_true rfl), (Nat.le_of_ble_eq_true rfl)⟩ rfl (fun r w1 H locs hQ V => ?_)
                  obtain ⟨bs_17, g1_18, g2_19, rfl, rfl, f_20⟩ := hQ
                  have V : gW D T A s [(y0, .inr (0, [.int bs_17, .ref y1, .ref y2])), (y1, .inl (T 0, 7, .inl g1_18)), (y2, .inl (T 0, 7, .inl g2_19)), (a0, .inr (5, [.int (nI an), .int am, .int al, .int ao, .int au, .ref a1, .ref a2, .ref a3, .ref a4, .ref a5, .ref a6, .ref a7, .ref a8, .ref a9, .ref a10])), (a1, .inl (T 0, 10, .inl af1)), (a2, .inl (T 0, 10, .inl af2))] H locs := V
                  show W p l e _ s m args below meth c H locs _ _ _ (F0 m 132 ls [])
                  have hq := up_all (p := fun x => x = -1 ∨ bd x 7) (k := 1) (x := -1) f_20 (fun _ => Or.inl rfl)
                  refine lv_aload_n hx hb dX0_layFrom_132 rfl (lv_at hl 2 rfl) ?_
                  refine g_get hC V (ci := 0) uwX0 0 rfl rfl 2 (by decide) w_215 rfl rfl dX0_layFrom_133 ?_
                  refine lv_iload_n hx hb dX0_layFrom_136 rfl (lv_at hl 4 rfl) ?_
                  refine lv_iconst (v := (-1)) hx hb dX0_layFrom_137 (by decide +kernel) ?_
                  refine g_iast hC V 2 rfl (vp_in_nI (by decide) (by decide)) (f' := (upd g2_19 1 (-1))) (by rw [nI_clamp (by decide)]) (ws' := [(y0, .inr (0, [.int bs_17, .ref y1, .ref y2])), (y1, .inl (T 0, 7, .inl g1_18)), (y2, .inl (T 0, 7, .inl (upd g2_19 1 (-1)))), (a0, .inr (5, [.int (nI an), .int am, .int al, .int ao, .int au, .ref a1, .ref a2, .ref a3, .ref a4, .ref a5, .ref a6, .ref a7, .ref a8, .ref a9, .ref a10])), (a1, .inl (T 0, 10, .inl af1)), (a2, .inl (T 0, 10, .inl af2))]) rfl dX0_layFrom_138 (fun H locs V => ?_)
                  refine lv_iinc (v := (nI (k57 + 1))) (lv' := [(5, .int (nI (k57 + 1))), (6, .int x_16), (0, .ref y0), (1, .ref a0), (2, .int (nI 1)), (3, .int tk), (4, .int sum)]) hx hb dX0_layFrom_139 hl (k := 1) rfl (nI_1 _) (by decide) rfl (fun ls hl => ?_)
                  refine lv_goto (tgt := 57) hx hb dX0_layFrom_142 (by decide) ?_
                  exact ih_57 (k57 + 1) bs_17 g1_18 (upd g2_19 1 (-1)) (by omega) (by assumption) (by omega) _ _ _ V (lv_sub hl [0, 2, 3, 4, 5, 6] rfl)
        exact L_14 _ 0 ys yb yt (by omega) h_yt (Nat.lt_succ_self _) _ _ _ V (lv_sub hl [0, 1, 2, 3, 4, 5] rfl)
    · skip
      exact g_vret (Qr := (q_y_lay1 T y0 a0 tk sum ys y1 y2 yb yt an am al ao au a1 a2 a3 a4 a5 a6 a7 a8 a9 a10 af1 af2)) hC V ⟨(Nat.le_of_ble_eq_true rfl), (Nat.le_of_ble_eq_true rfl)⟩ ⟨ys, yb, yt, rfl, rfl, (by first | assumption | omega)⟩ dX0_layFrom_17

def q_y_lay0 (T : Nat → ClassId) (y0 : Nat) (a0 : Nat) (tk : Int32) (sum : Int32) (ys : Int32) (y1 : Nat) (y2 : Nat) (yb : Nat → Int32) (yt : Nat → Int32) (an : Nat) (am : Int32) (al : Int32) (ao : Int32) (au : Int32) (a1 : Nat) (a2 : Nat) (a3 : Nat) (a4 : Nat) (a5 : Nat) (a6 : Nat) (a7 : Nat) (a8 : Nat) (a9 : Nat) (a10 : Nat) (af1 : Nat → Int32) (af2 : Nat → Int32) : Option Value → va_W → Prop := fun rr ww => (∃ (bs : Int32) (g1 : Nat → Int32) (g2 : Nat → Int32), rr = none ∧ ww = [(y0, .inr (0, [.int bs, .ref y1, .ref y2])), (y1, .inl (T 0, 7, .inl g1)), (y2, .inl (T 0, 7, .inl g2)), (a0, .inr (5, [.int (nI an), .int am, .int al, .int ao, .int au, .ref a1, .ref a2, .ref a3, .ref a4, .ref a5, .ref a6, .ref a7, .ref a8, .ref a9, .ref a10])), (a1, .inl (T 0, 10, .inl af1)), (a2, .inl (T 0, 10, .inl af2))] ∧ (∀ i, i < 7 → (g2 i = -1 ∨ bd (g2 i) 7)))
set_option maxHeartbeats 4000000 in
set_option maxRecDepth 100000 in
theorem y_lay0 (l : Launch) (D : va_G) (T : Nat → ClassId) (y0 : Nat) (a0 : Nat) (tk : Int32) (sum : Int32) (ys : Int32) (y1 : Nat) (y2 : Nat) (yb : Nat → Int32) (yt : Nat → Int32) (an : Nat) (am : Int32) (al : Int32) (ao : Int32) (au : Int32) (a1 : Nat) (a2 : Nat) (a3 : Nat) (a4 : Nat) (a5 : Nat) (a6 : Nat) (a7 : Nat) (a8 : Nat) (a9 : Nat) (a10 : Nat) (af1 : Nat → Int32) (af2 : Nat → Int32) (h_n : an ≤ 7) (h_yt : ∀ i, i < 7 → (yt i = -1 ∨ bd (yt i) 7)) : Ct l yX0_layFrom cX0_layFrom 7 none 9 0 0 D T [.ref y0, .ref a0, .int (nI 0), .int tk, .int sum] [(y0, .inr (0, [.int ys, .ref y1, .ref y2])), (y1, .inl (T 0, 7, .inl yb)), (y2, .inl (T 0, 7, .inl yt)), (a0, .inr (5, [.int (nI an), .int am, .int al, .int ao, .int au, .ref a1, .ref a2, .ref a3, .ref a4, .ref a5, .ref a6, .ref a7, .ref a8, .ref a9, .ref a10])), (a1, .inl (T 0, 10, .inl af1)), (a2, .inl (T 0, 10, .inl af2))] (q_y_lay0 T y0 a0 tk sum ys y1 y2 yb yt an am al ao au a1 a2 a3 a4 a5 a6 a7 a8 a9 a10 af1 af2) := by
  refine Ct.of (cc := cX0_layFrom) (maxL := 7) (ret := none) (by decide) (Nat.le_of_ble_eq_true rfl) ?_
  intro p e s m args below meth c A ls hC hnm V hl
  obtain ⟨hx, hb, hr, hml, hown, hts, hlocks⟩ := id hC
  generalize hH : s.heap = H at V ⊢
  clear hH
  have hl : lv_has ls 7 [(0, .ref y0), (1, .ref a0), (2, .int (nI 0)), (3, .int tk), (4, .int sum)] := hl
  generalize hlo : ([] : List Loc) = locs at V ⊢
  clear hlo
  refine lv_aload_n hx hb dX0_layFrom_0 rfl (lv_at hl 0 rfl) ?_
  refine g_get hC V (ci := 0) uwX0 0 rfl rfl 0 (by decide) w_211 rfl rfl dX0_layFrom_1 ?_
  refine lv_iconst (v := (-1)) hx hb dX0_layFrom_4 (by decide +kernel) ?_
  refine lv_icmp_eq (tgt := 18) hx hb dX0_layFrom_5 (by decide) (fun c_1 => ?_) (fun c_1 => ?_)
  · skip
    refine lv_iload_n hx hb dX0_layFrom_18 rfl (lv_at hl 2 rfl) ?_
    refine lv_aload_n hx hb dX0_layFrom_19 rfl (lv_at hl 1 rfl) ?_
    refine g_get hC V (ci := 5) uwX5 3 rfl rfl 0 (by decide) w_35 rfl rfl dX0_layFrom_20 ?_
    refine lv_icmp_ge (tgt := 32) hx hb dX0_layFrom_23 (by decide) (fun c_2 => ?_) (fun c_2 => ?_)
    · skip
      have c_2 := b_le (by omega) (by omega) c_2
      refine lv_aload_n hx hb dX0_layFrom_32 rfl (lv_at hl 0 rfl) ?_
      refine lv_iload hx hb dX0_layFrom_33 (lv_at hl 4 rfl) ?_
      refine g_put hC V (ci := 0) uwX0 tyX0 tyX0_ok nmX0 0 rfl rfl 0 (by decide) w_211 rfl rfl rfl rfl (Nat.le_of_ble_eq_true rfl) (ws' := [(y0, .inr (0, [.int sum, .ref y1, .ref y2])), (y1, .inl (T 0, 7, .inl yb)), (y2, .inl (T 0, 7, .inl yt)), (a0, .inr (5, [.int (nI an), .int am, .int al, .int ao, .int au, .ref a1, .ref a2, .ref a3, .ref a4, .ref a5, .ref a6, .ref a7, .ref a8, .ref a9, .ref a10])), (a1, .inl (T 0, 10, .inl af1)), (a2, .inl (T 0, 10, .inl af2))]) rfl dX0_layFrom_35 (fun H locs V => ?_)
      refine lv_aload_n hx hb dX0_layFrom_38 rfl (lv_at hl 0 rfl) ?_
      refine g_get hC V (ci := 0) uwX0 0 rfl rfl 2 (by decide) w_215 rfl rfl dX0_layFrom_39 ?_
      refine lv_iconst (v := (nI 0)) hx hb dX0_layFrom_42 (by decide +kernel) ?_
      refine lv_aload_n hx hb dX0_layFrom_43 rfl (lv_at hl 0 rfl) ?_
      refine g_get hC V (ci := 0) uwX0 0 rfl rfl 1 (by decide) w_213 rfl rfl dX0_layFrom_44 ?_
      refine lv_iconst (v := (nI 0)) hx hb dX0_layFrom_47 (by decide +kernel) ?_
      refine lv_bipush (v := (nI 7)) hx hb dX0_layFrom_48 (by decide +kernel) ?_
      refine g_copyi hC V hl.1 w_808 w_672 w_671 w_17 2 1 rfl rfl (by decide +kernel) (by decide +kernel) (Nat.le_of_ble_eq_true rfl) (Nat.le_of_ble_eq_true rfl) (Nat.le_of_ble_eq_true rfl) dX0_layFrom_50 (fun g_3 H locs V => ?_)
      have V : gW D T A s [(y0, .inr (0, [.int sum, .ref y1, .ref y2])), (y1, .inl (T 0, 7, .inl g_3)), (y2, .inl (T 0, 7, .inl yt)), (a0, .inr (5, [.int (nI an), .int am, .int al, .int ao, .int au, .ref a1, .ref a2, .ref a3, .ref a4, .ref a5, .ref a6, .ref a7, .ref a8, .ref a9, .ref a10])), (a1, .inl (T 0, 10, .inl af1)), (a2, .inl (T 0, 10, .inl af2))] H locs := V
      exact g_vret (Qr := (q_y_lay0 T y0 a0 tk sum ys y1 y2 yb yt an am al ao au a1 a2 a3 a4 a5 a6 a7 a8 a9 a10 af1 af2)) hC V ⟨(Nat.le_of_ble_eq_true rfl), (Nat.le_of_ble_eq_true rfl)⟩ ⟨sum, g_3, yt, rfl, rfl, (by first | assumption | omega)⟩ dX0_layFrom_53
    · skip
      have c_2 := b_nle (by omega) (by omega) c_2
      refine lv_iload_n hx hb dX0_layFrom_26 rfl (lv_at hl 2 rfl) ?_
      refine lv_bipush (v := (nI 7)) hx hb dX0_layFrom_27 (by decide +kernel) ?_
      refine lv_icmp_lt (tgt := 54) hx hb dX0_layFrom_29 (by decide) (fun _ => ?_) (fun c => absurd (show (nI 0) < (nI 7) by first | rfl | decide +kernel) c)
      refine lv_iconst (v := (nI 0)) hx hb dX0_layFrom_54 (by decide +kernel) ?_
      refine lv_istore (lv' := [(5, .int (nI 0)), (0, .ref y0), (1, .ref a0), (2, .int (nI 0)), (3, .int tk), (4, .int sum)]) hx hb dX0_layFrom_55 hl (by decide) rfl (fun ls hl => ?_)
      have L_4 : ∀ (fu : Nat) (k57 : Nat) (bv : Int32) (ga : Nat → Int32) (gb : Nat → Int32), k57 ≤ an → (∀ i, i < 7 → (gb i = -1 ∨ bd (gb i) 7)) → an - k57 < fu → ∀ (H : Heap) (locs : List Loc) (ls : Array Slot), gW D T A s [(y0, .inr (0, [.int bv, .ref y1, .ref y2])), (y1, .inl (T 0, 7, .inl ga)), (y2, .inl (T 0, 7, .inl gb)), (a0, .inr (5, [.int (nI an), .int am, .int al, .int ao, .int au, .ref a1, .ref a2, .ref a3, .ref a4, .ref a5, .ref a6, .ref a7, .ref a8, .ref a9, .ref a10])), (a1, .inl (T 0, 10, .inl af1)), (a2, .inl (T 0, 10, .inl af2))] H locs → lv_has ls 7 [(5, .int (nI k57)), (0, .ref y0), (1, .ref a0), (2, .int (nI 0)), (3, .int tk), (4, .int sum)] → W p l e (rmD 9 0 0) s m args below meth c H locs 0 0 (MQ below (gQ D A (q_y_lay0 T y0 a0 tk sum ys y1 y2 yb yt an am al ao au a1 a2 a3 a4 a5 a6 a7 a8 a9 a10 af1 af2)) args s 0 0 A) (F0 m 57 ls []) := by
        intro fu_57
        induction fu_57 with
        | zero => intro k57 bv ga gb hk57 hgb hmu; exact absurd hmu (Nat.not_lt_zero _)
        | succ fu_57 ih_57 =>
          intro k57 bv ga gb hk57 hgb hmu_57 H locs ls V hl
          refine lv_iload hx hb dX0_layFrom_57 (lv_at hl 0 rfl) ?_
          refine lv_aload_n hx hb dX0_layFrom_59 rfl (lv_at hl 2 rfl) ?_
          refine g_get hC V (ci := 5) uwX5 3 rfl rfl 0 (by decide) w_35 rfl rfl dX0_layFrom_60 ?_
          refine lv_icmp_ge (tgt := 145) hx hb dX0_layFrom_63 (by decide) (fun c_5 => ?_) (fun c_5 => ?_)
          · skip
            have c_5 := b_le (by omega) (by omega) c_5
            exact g_vret (Qr := (q_y_lay0 T y0 a0 tk sum ys y1 y2 yb yt an am al ao au a1 a2 a3 a4 a5 a6 a7 a8 a9 a10 af1 af2)) hC V ⟨(Nat.le_of_ble_eq_true rfl), (Nat.le_of_ble_eq_true rfl)⟩ ⟨bv, ga, gb, rfl, rfl, (by first | assumption | omega)⟩ dX0_layFrom_145
          · skip
            have c_5 := b_nle (by omega) (by omega) c_5
            refine lv_iload_n hx hb dX0_layFrom_66 rfl (lv_at hl 4 rfl) ?_
            refine lv_iload hx hb dX0_layFrom_67 (lv_at hl 0 rfl) ?_
            refine g_callSNU (nA := 2) (host := RX7) hC V hl.1 (c_isIn l D T tk (nI k57)) w_472 (List.mem_of_getElem? (i := 7) rfl) w_2 w_471 (by decide +kernel) rfl ⟨(Nat.le_of_ble_eq_true rfl), (Nat.le_of_ble_eq_true rfl)⟩ [] rfl rfl (Nat.le_of_ble_eq_true rfl) dX0_layFrom_69 ⟨(Nat.le_of_ble_eq_true rfl), (Nat.le_of_ble_eq_true rfl)⟩ rfl (fun r w1 H locs hQ V => ?_)
            rcases hQ with ⟨rfl, rfl⟩ | ⟨rfl, rfl⟩
            · have V : gW D T A s [(y0, .inr (0, [.int bv, .ref y1, .ref y2])), (y1, .inl (T 0, 7, .inl ga)), (y2, .inl (T 0, 7, .inl gb)), (a0, .inr (5, [.int (nI an), .int am, .int al, .int ao, .int au, .ref a1, .ref a2, .ref a3, .ref a4, .ref a5, .ref a6, .ref a7, .ref a8, .ref a9, .ref a10])), (a1, .inl (T 0, 10, .inl af1)), (a2, .inl (T 0, 10, .inl af2))] H locs := V _ [] rfl rfl rfl (by decide +kernel) rfl
              show W p l e _ s m args below meth c H locs _ _ _ (F0 m 72 ls [.int (nI 1)])
              refine lv_if_ne (tgt := 139) hx hb dX0_layFrom_72 (by decide) (fun _ => ?_) (fun c => absurd (show (nI 1) = 0 from c) (by decide +kernel))
              refine lv_iinc (v := (nI (k57 + 1))) (lv' := [(5, .int (nI (k57 + 1))), (0, .ref y0), (1, .ref a0), (2, .int (nI 0)), (3, .int tk), (4, .int sum)]) hx hb dX0_layFrom_139 hl (k := 0) rfl (nI_1 _) (by decide) rfl (fun ls hl => ?_)
              refine lv_goto (tgt := 57) hx hb dX0_layFrom_142 (by decide) ?_
              exact ih_57 (k57 + 1) bv ga gb (by omega) (by assumption) (by omega) _ _ _ V (lv_sub hl [0, 1, 2, 3, 4, 5] rfl)
            · have V : gW D T A s [(y0, .inr (0, [.int bv, .ref y1, .ref y2])), (y1, .inl (T 0, 7, .inl ga)), (y2, .inl (T 0, 7, .inl gb)), (a0, .inr (5, [.int (nI an), .int am, .int al, .int ao, .int au, .ref a1, .ref a2, .ref a3, .ref a4, .ref a5, .ref a6, .ref a7, .ref a8, .ref a9, .ref a10])), (a1, .inl (T 0, 10, .inl af1)), (a2, .inl (T 0, 10, .inl af2))] H locs := V _ [] rfl rfl rfl (by decide +kernel) rfl
              show W p l e _ s m args below meth c H locs _ _ _ (F0 m 72 ls [.int (nI 0)])
              refine lv_if_ne (tgt := 139) hx hb dX0_layFrom_72 (by decide) (fun c => absurd (show (nI 0) = 0 by decide +kernel) c) (fun _ => ?_)
              refine lv_aload_n hx hb dX0_layFrom_75 rfl (lv_at hl 1 rfl) ?_
              refine lv_aload_n hx hb dX0_layFrom_76 rfl (lv_at hl 2 rfl) ?_
              refine lv_iload_n hx hb dX0_layFrom_77 rfl (lv_at hl 3 rfl) ?_
              refine lv_iload hx hb dX0_layFrom_78 (lv_at hl 0 rfl) ?_
              refine g_callVU (nA := 3) hC V hl.1 (y_closes l D T y0 a0 0 k57 bv y1 y2 gb an am al ao au a1 a2 a3 a4 a5 a6 a7 a8 a9 a10 (by first | assumption | omega) hgb (by first | assumption | omega) (by first | assumption | omega)) w_810 w_812 w_s32 w_7 w_813 (by decide +kernel) rfl ⟨(Nat.le_of_ble_eq_true rfl), (Nat.le_of_ble_eq_true rfl)⟩ 0 (ci := 0) rfl rfl [0, 2, 3] rfl rfl (Nat.le_of_ble_eq_true rfl) dX0_layFrom_80 ⟨(Nat.le_of_ble_eq_true rfl), (Nat.le_of_ble_eq_true rfl)⟩ rfl (fun r w1 H locs hQ V => ?_)
              rcases hQ with ⟨rfl, rfl⟩ | ⟨rfl, rfl⟩
              · have V : gW D T A s [(y0, .inr (0, [.int bv, .ref y1, .ref y2])), (y1, .inl (T 0, 7, .inl ga)), (y2, .inl (T 0, 7, .inl gb)), (a0, .inr (5, [.int (nI an), .int am, .int al, .int ao, .int au, .ref a1, .ref a2, .ref a3, .ref a4, .ref a5, .ref a6, .ref a7, .ref a8, .ref a9, .ref a10])), (a1, .inl (T 0, 10, .inl af1)), (a2, .inl (T 0, 10, .inl af2))] H locs := V _ [0, 1, 0] rfl rfl rfl (by decide +kernel) rfl
                show W p l e _ s m args below meth c H locs _ _ _ (F0 m 83 ls [.int (nI 1)])
                refine lv_if_ne (tgt := 139) hx hb dX0_layFrom_83 (by decide) (fun _ => ?_) (fun c => absurd (show (nI 1) = 0 from c) (by decide +kernel))
                refine lv_iinc (v := (nI (k57 + 1))) (lv' := [(5, .int (nI (k57 + 1))), (0, .ref y0), (1, .ref a0), (2, .int (nI 0)), (3, .int tk), (4, .int sum)]) hx hb dX0_layFrom_139 hl (k := 0) rfl (nI_1 _) (by decide) rfl (fun ls hl => ?_)
                refine lv_goto (tgt := 57) hx hb dX0_layFrom_142 (by decide) ?_
                exact ih_57 (k57 + 1) bv ga gb (by omega) (by assumption) (by omega) _ _ _ V (lv_sub hl [0, 1, 2, 3, 4, 5] rfl)
              · have V : gW D T A s [(y0, .inr (0, [.int bv, .ref y1, .ref y2])), (y1, .inl (T 0, 7, .inl ga)), (y2, .inl (T 0, 7, .inl gb)), (a0, .inr (5, [.int (nI an), .int am, .int al, .int ao, .int au, .ref a1, .ref a2, .ref a3, .ref a4, .ref a5, .ref a6, .ref a7, .ref a8, .ref a9, .ref a10])), (a1, .inl (T 0, 10, .inl af1)), (a2, .inl (T 0, 10, .inl af2))] H locs := V _ [0, 1, 0] rfl rfl rfl (by decide +kernel) rfl
                show W p l e _ s m args below meth c H locs _ _ _ (F0 m 83 ls [.int (nI 0)])
                refine lv_if_ne (tgt := 139) hx hb dX0_layFrom_83 (by decide) (fun c => absurd (show (nI 0) = 0 by decide +kernel) c) (fun _ => ?_)
                refine lv_aload_n hx hb dX0_layFrom_86 rfl (lv_at hl 1 rfl) ?_
                refine g_get hC V (ci := 0) uwX0 0 rfl rfl 2 (by decide) w_215 rfl rfl dX0_layFrom_87 ?_
                refine lv_iload_n hx hb dX0_layFrom_90 rfl (lv_at hl 3 rfl) ?_
                refine lv_iload hx hb dX0_layFrom_91 (lv_at hl 0 rfl) ?_
                refine g_iast hC V 2 rfl (vp_in_nI (by decide) (by decide)) (f' := (upd gb 0 (nI k57))) (by rw [nI_clamp (by decide)]) (ws' := [(y0, .inr (0, [.int bv, .ref y1, .ref y2])), (y1, .inl (T 0, 7, .inl ga)), (y2, .inl (T 0, 7, .inl (upd gb 0 (nI k57)))), (a0, .inr (5, [.int (nI an), .int am, .int al, .int ao, .int au, .ref a1, .ref a2, .ref a3, .ref a4, .ref a5, .ref a6, .ref a7, .ref a8, .ref a9, .ref a10])), (a1, .inl (T 0, 10, .inl af1)), (a2, .inl (T 0, 10, .inl af2))]) rfl dX0_layFrom_93 (fun H locs V => ?_)
                refine lv_aload_n hx hb dX0_layFrom_94 rfl (lv_at hl 2 rfl) ?_
                refine g_get hC V (ci := 5) uwX5 3 rfl rfl 5 (by decide) w_52 rfl rfl dX0_layFrom_95 ?_
                refine lv_iload_n hx hb dX0_layFrom_98 rfl (lv_at hl 3 rfl) ?_
                refine g_iald hC V 4 rfl (vp_in_nI (by decide) (by decide)) (v := (af1 0)) (congrArg _ (nI_clamp (by decide))) dX0_layFrom_99 ?_
                refine lv_aload_n hx hb dX0_layFrom_100 rfl (lv_at hl 2 rfl) ?_
                refine g_get hC V (ci := 5) uwX5 3 rfl rfl 6 (by decide) w_58 rfl rfl dX0_layFrom_101 ?_
                refine lv_iload hx hb dX0_layFrom_104 (lv_at hl 0 rfl) ?_
                refine g_iald hC V 5 rfl (vp_in_nI (by omega) (by omega)) (v := (af2 k57)) (congrArg _ (nI_clamp (by omega))) dX0_layFrom_106 ?_
                refine lv_isub hx hb dX0_layFrom_107 ?_
                refine va_mabs hx hb (hml.trans hl.1.symm) hown (hts _ w_814) (hts _ w_815) (hts _ w_10) (hts _ w_816) (Nat.le_of_ble_eq_true rfl) (Nat.le_of_ble_eq_true rfl) (Nat.le_of_ble_eq_true rfl) (Nat.le_of_ble_eq_true rfl) dX0_layFrom_108 ?_
                refine lv_topi (fun x_6 ex_6 => ?_)
                refine lv_istore (lv' := [(6, .int x_6), (5, .int (nI k57)), (0, .ref y0), (1, .ref a0), (2, .int (nI 0)), (3, .int tk), (4, .int sum)]) hx hb dX0_layFrom_111 hl (by decide) rfl (fun ls hl => ?_)
                refine lv_aload_n hx hb dX0_layFrom_113 rfl (lv_at hl 2 rfl) ?_
                refine lv_aload_n hx hb dX0_layFrom_114 rfl (lv_at hl 3 rfl) ?_
                refine lv_iload_n hx hb dX0_layFrom_115 rfl (lv_at hl 4 rfl) ?_
                refine lv_iconst (v := (nI 1)) hx hb dX0_layFrom_116 (by decide +kernel) ?_
                refine lv_iadd hx hb dX0_layFrom_117 ?_
                refine g_vi (y := (nI 1)) (by decide +kernel) ?_
                refine lv_iload_n hx hb dX0_layFrom_118 rfl (lv_at hl 5 rfl) ?_
                refine lv_iconst (v := (nI 1)) hx hb dX0_layFrom_119 (by decide +kernel) ?_
                refine lv_iload hx hb dX0_layFrom_120 (lv_at hl 1 rfl) ?_
                refine lv_ishl hx hb dX0_layFrom_122 ?_
                refine lv_ior hx hb dX0_layFrom_123 ?_
                refine lv_iload hx hb dX0_layFrom_124 (lv_at hl 6 rfl) ?_
                refine lv_iload hx hb dX0_layFrom_126 (lv_at hl 0 rfl) ?_
                refine lv_iadd hx hb dX0_layFrom_128 ?_
                refine g_callV (wr := []) (nA := 4) hC V hl.1 (y_lay1 l D T y0 a0 (tk ||| ((nI 1) <<< ((nI k57) &&& 31))) (sum + x_6) bv y1 y2 ga (upd gb 0 (nI k57)) an am al ao au a1 a2 a3 a4 a5 a6 a7 a8 a9 a10 af1 af2 (by first | assumption | omega) (up_all (p := fun x => x = -1 ∨ bd x 7) hgb (fun _ => Or.inr (bd_nI (by omega))))) w_804 w_806 w_s31 w_7 w_807 (by decide +kernel) rfl ⟨(Nat.le_of_ble_eq_true rfl), (Nat.le_of_ble_eq_true rfl)⟩ 0 (ci := 0) rfl rfl [0, 1, 2, 3, 4, 5] [] rfl rfl rfl rfl (by decide) (Nat.le_of_ble_eq_true rfl) dX0_layFrom_129 ⟨(Nat.le_of_ble_eq_true rfl), (Nat.le_of_ble_eq_true rfl)⟩ rfl (fun r w1 H locs hQ V => ?_)
                obtain ⟨bs_7, g1_8, g2_9, rfl, rfl, f_10⟩ := hQ
                have V : gW D T A s [(y0, .inr (0, [.int bs_7, .ref y1, .ref y2])), (y1, .inl (T 0, 7, .inl g1_8)), (y2, .inl (T 0, 7, .inl g2_9)), (a0, .inr (5, [.int (nI an), .int am, .int al, .int ao, .int au, .ref a1, .ref a2, .ref a3, .ref a4, .ref a5, .ref a6, .ref a7, .ref a8, .ref a9, .ref a10])), (a1, .inl (T 0, 10, .inl af1)), (a2, .inl (T 0, 10, .inl af2))] H locs := V
                show W p l e _ s m args below meth c H locs _ _ _ (F0 m 132 ls [])
                have hq := up_all (p := fun x => x = -1 ∨ bd x 7) (k := 0) (x := -1) f_10 (fun _ => Or.inl rfl)
                refine lv_aload_n hx hb dX0_layFrom_132 rfl (lv_at hl 2 rfl) ?_
                refine g_get hC V (ci := 0) uwX0 0 rfl rfl 2 (by decide) w_215 rfl rfl dX0_layFrom_133 ?_
                refine lv_iload_n hx hb dX0_layFrom_136 rfl (lv_at hl 4 rfl) ?_
                refine lv_iconst (v := (-1)) hx hb dX0_layFrom_137 (by decide +kernel) ?_
                refine g_iast hC V 2 rfl (vp_in_nI (by decide) (by decide)) (f' := (upd g2_9 0 (-1))) (by rw [nI_clamp (by decide)]) (ws' := [(y0, .inr (0, [.int bs_7, .ref y1, .ref y2])), (y1, .inl (T 0, 7, .inl g1_8)), (y2, .inl (T 0, 7, .inl (upd g2_9 0 (-1)))), (a0, .inr (5, [.int (nI an), .int am, .int al, .int ao, .int au, .ref a1, .ref a2, .ref a3, .ref a4, .ref a5, .ref a6, .ref a7, .ref a8, .ref a9, .ref a10])), (a1, .inl (T 0, 10, .inl af1)), (a2, .inl (T 0, 10, .inl af2))]) rfl dX0_layFrom_138 (fun H locs V => ?_)
                refine lv_iinc (v := (nI (k57 + 1))) (lv' := [(5, .int (nI (k57 + 1))), (6, .int x_6), (0, .ref y0), (1, .ref a0), (2, .int (nI 0)), (3, .int tk), (4, .int sum)]) hx hb dX0_layFrom_139 hl (k := 1) rfl (nI_1 _) (by decide) rfl (fun ls hl => ?_)
                refine lv_goto (tgt := 57) hx hb dX0_layFrom_142 (by decide) ?_
                exact ih_57 (k57 + 1) bs_7 g1_8 (upd g2_9 0 (-1)) (by omega) (by assumption) (by omega) _ _ _ V (lv_sub hl [0, 2, 3, 4, 5, 6] rfl)
      exact L_4 _ 0 ys yb yt (by omega) h_yt (Nat.lt_succ_self _) _ _ _ V (lv_sub hl [0, 1, 2, 3, 4, 5] rfl)
  · skip
    refine lv_iload hx hb dX0_layFrom_8 (lv_at hl 4 rfl) ?_
    refine lv_aload_n hx hb dX0_layFrom_10 rfl (lv_at hl 0 rfl) ?_
    refine g_get hC V (ci := 0) uwX0 0 rfl rfl 0 (by decide) w_211 rfl rfl dX0_layFrom_11 ?_
    refine lv_icmp_lt (tgt := 18) hx hb dX0_layFrom_14 (by decide) (fun c_11 => ?_) (fun c_11 => ?_)
    · skip
      refine lv_iload_n hx hb dX0_layFrom_18 rfl (lv_at hl 2 rfl) ?_
      refine lv_aload_n hx hb dX0_layFrom_19 rfl (lv_at hl 1 rfl) ?_
      refine g_get hC V (ci := 5) uwX5 3 rfl rfl 0 (by decide) w_35 rfl rfl dX0_layFrom_20 ?_
      refine lv_icmp_ge (tgt := 32) hx hb dX0_layFrom_23 (by decide) (fun c_12 => ?_) (fun c_12 => ?_)
      · skip
        have c_12 := b_le (by omega) (by omega) c_12
        refine lv_aload_n hx hb dX0_layFrom_32 rfl (lv_at hl 0 rfl) ?_
        refine lv_iload hx hb dX0_layFrom_33 (lv_at hl 4 rfl) ?_
        refine g_put hC V (ci := 0) uwX0 tyX0 tyX0_ok nmX0 0 rfl rfl 0 (by decide) w_211 rfl rfl rfl rfl (Nat.le_of_ble_eq_true rfl) (ws' := [(y0, .inr (0, [.int sum, .ref y1, .ref y2])), (y1, .inl (T 0, 7, .inl yb)), (y2, .inl (T 0, 7, .inl yt)), (a0, .inr (5, [.int (nI an), .int am, .int al, .int ao, .int au, .ref a1, .ref a2, .ref a3, .ref a4, .ref a5, .ref a6, .ref a7, .ref a8, .ref a9, .ref a10])), (a1, .inl (T 0, 10, .inl af1)), (a2, .inl (T 0, 10, .inl af2))]) rfl dX0_layFrom_35 (fun H locs V => ?_)
        refine lv_aload_n hx hb dX0_layFrom_38 rfl (lv_at hl 0 rfl) ?_
        refine g_get hC V (ci := 0) uwX0 0 rfl rfl 2 (by decide) w_215 rfl rfl dX0_layFrom_39 ?_
        refine lv_iconst (v := (nI 0)) hx hb dX0_layFrom_42 (by decide +kernel) ?_
        refine lv_aload_n hx hb dX0_layFrom_43 rfl (lv_at hl 0 rfl) ?_
        refine g_get hC V (ci := 0) uwX0 0 rfl rfl 1 (by decide) w_213 rfl rfl dX0_layFrom_44 ?_
        refine lv_iconst (v := (nI 0)) hx hb dX0_layFrom_47 (by decide +kernel) ?_
        refine lv_bipush (v := (nI 7)) hx hb dX0_layFrom_48 (by decide +kernel) ?_
        refine g_copyi hC V hl.1 w_808 w_672 w_671 w_17 2 1 rfl rfl (by decide +kernel) (by decide +kernel) (Nat.le_of_ble_eq_true rfl) (Nat.le_of_ble_eq_true rfl) (Nat.le_of_ble_eq_true rfl) dX0_layFrom_50 (fun g_13 H locs V => ?_)
        have V : gW D T A s [(y0, .inr (0, [.int sum, .ref y1, .ref y2])), (y1, .inl (T 0, 7, .inl g_13)), (y2, .inl (T 0, 7, .inl yt)), (a0, .inr (5, [.int (nI an), .int am, .int al, .int ao, .int au, .ref a1, .ref a2, .ref a3, .ref a4, .ref a5, .ref a6, .ref a7, .ref a8, .ref a9, .ref a10])), (a1, .inl (T 0, 10, .inl af1)), (a2, .inl (T 0, 10, .inl af2))] H locs := V
        exact g_vret (Qr := (q_y_lay0 T y0 a0 tk sum ys y1 y2 yb yt an am al ao au a1 a2 a3 a4 a5 a6 a7 a8 a9 a10 af1 af2)) hC V ⟨(Nat.le_of_ble_eq_true rfl), (Nat.le_of_ble_eq_true rfl)⟩ ⟨sum, g_13, yt, rfl, rfl, (by first | assumption | omega)⟩ dX0_layFrom_53
      · skip
        have c_12 := b_nle (by omega) (by omega) c_12
        refine lv_iload_n hx hb dX0_layFrom_26 rfl (lv_at hl 2 rfl) ?_
        refine lv_bipush (v := (nI 7)) hx hb dX0_layFrom_27 (by decide +kernel) ?_
        refine lv_icmp_lt (tgt := 54) hx hb dX0_layFrom_29 (by decide) (fun _ => ?_) (fun c => absurd (show (nI 0) < (nI 7) by first | rfl | decide +kernel) c)
        refine lv_iconst (v := (nI 0)) hx hb dX0_layFrom_54 (by decide +kernel) ?_
        refine lv_istore (lv' := [(5, .int (nI 0)), (0, .ref y0), (1, .ref a0), (2, .int (nI 0)), (3, .int tk), (4, .int sum)]) hx hb dX0_layFrom_55 hl (by decide) rfl (fun ls hl => ?_)
        have L_14 : ∀ (fu : Nat) (k57 : Nat) (bv : Int32) (ga : Nat → Int32) (gb : Nat → Int32), k57 ≤ an → (∀ i, i < 7 → (gb i = -1 ∨ bd (gb i) 7)) → an - k57 < fu → ∀ (H : Heap) (locs : List Loc) (ls : Array Slot), gW D T A s [(y0, .inr (0, [.int bv, .ref y1, .ref y2])), (y1, .inl (T 0, 7, .inl ga)), (y2, .inl (T 0, 7, .inl gb)), (a0, .inr (5, [.int (nI an), .int am, .int al, .int ao, .int au, .ref a1, .ref a2, .ref a3, .ref a4, .ref a5, .ref a6, .ref a7, .ref a8, .ref a9, .ref a10])), (a1, .inl (T 0, 10, .inl af1)), (a2, .inl (T 0, 10, .inl af2))] H locs → lv_has ls 7 [(5, .int (nI k57)), (0, .ref y0), (1, .ref a0), (2, .int (nI 0)), (3, .int tk), (4, .int sum)] → W p l e (rmD 9 0 0) s m args below meth c H locs 0 0 (MQ below (gQ D A (q_y_lay0 T y0 a0 tk sum ys y1 y2 yb yt an am al ao au a1 a2 a3 a4 a5 a6 a7 a8 a9 a10 af1 af2)) args s 0 0 A) (F0 m 57 ls []) := by
          intro fu_57
          induction fu_57 with
          | zero => intro k57 bv ga gb hk57 hgb hmu; exact absurd hmu (Nat.not_lt_zero _)
          | succ fu_57 ih_57 =>
            intro k57 bv ga gb hk57 hgb hmu_57 H locs ls V hl
            refine lv_iload hx hb dX0_layFrom_57 (lv_at hl 0 rfl) ?_
            refine lv_aload_n hx hb dX0_layFrom_59 rfl (lv_at hl 2 rfl) ?_
            refine g_get hC V (ci := 5) uwX5 3 rfl rfl 0 (by decide) w_35 rfl rfl dX0_layFrom_60 ?_
            refine lv_icmp_ge (tgt := 145) hx hb dX0_layFrom_63 (by decide) (fun c_15 => ?_) (fun c_15 => ?_)
            · skip
              have c_15 := b_le (by omega) (by omega) c_15
              exact g_vret (Qr := (q_y_lay0 T y0 a0 tk sum ys y1 y2 yb yt an am al ao au a1 a2 a3 a4 a5 a6 a7 a8 a9 a10 af1 af2)) hC V ⟨(Nat.le_of_ble_eq_true rfl), (Nat.le_of_ble_eq_true rfl)⟩ ⟨bv, ga, gb, rfl, rfl, (by first | assumption | omega)⟩ dX0_layFrom_145
            · skip
              have c_15 := b_nle (by omega) (by omega) c_15
              refine lv_iload_n hx hb dX0_layFrom_66 rfl (lv_at hl 4 rfl) ?_
              refine lv_iload hx hb dX0_layFrom_67 (lv_at hl 0 rfl) ?_
              refine g_callSNU (nA := 2) (host := RX7) hC V hl.1 (c_isIn l D T tk (nI k57)) w_472 (List.mem_of_getElem? (i := 7) rfl) w_2 w_471 (by decide +kernel) rfl ⟨(Nat.le_of_ble_eq_true rfl), (Nat.le_of_ble_eq_true rfl)⟩ [] rfl rfl (Nat.le_of_ble_eq_true rfl) dX0_layFrom_69 ⟨(Nat.le_of_ble_eq_true rfl), (Nat.le_of_ble_eq_true rfl)⟩ rfl (fun r w1 H locs hQ V => ?_)
              rcases hQ with ⟨rfl, rfl⟩ | ⟨rfl, rfl⟩
              · have V : gW D T A s [(y0, .inr (0, [.int bv, .ref y1, .ref y2])), (y1, .inl (T 0, 7, .inl ga)), (y2, .inl (T 0, 7, .inl gb)), (a0, .inr (5, [.int (nI an), .int am, .int al, .int ao, .int au, .ref a1, .ref a2, .ref a3, .ref a4, .ref a5, .ref a6, .ref a7, .ref a8, .ref a9, .ref a10])), (a1, .inl (T 0, 10, .inl af1)), (a2, .inl (T 0, 10, .inl af2))] H locs := V _ [] rfl rfl rfl (by decide +kernel) rfl
                show W p l e _ s m args below meth c H locs _ _ _ (F0 m 72 ls [.int (nI 1)])
                refine lv_if_ne (tgt := 139) hx hb dX0_layFrom_72 (by decide) (fun _ => ?_) (fun c => absurd (show (nI 1) = 0 from c) (by decide +kernel))
                refine lv_iinc (v := (nI (k57 + 1))) (lv' := [(5, .int (nI (k57 + 1))), (0, .ref y0), (1, .ref a0), (2, .int (nI 0)), (3, .int tk), (4, .int sum)]) hx hb dX0_layFrom_139 hl (k := 0) rfl (nI_1 _) (by decide) rfl (fun ls hl => ?_)
                refine lv_goto (tgt := 57) hx hb dX0_layFrom_142 (by decide) ?_
                exact ih_57 (k57 + 1) bv ga gb (by omega) (by assumption) (by omega) _ _ _ V (lv_sub hl [0, 1, 2, 3, 4, 5] rfl)
              · have V : gW D T A s [(y0, .inr (0, [.int bv, .ref y1, .ref y2])), (y1, .inl (T 0, 7, .inl ga)), (y2, .inl (T 0, 7, .inl gb)), (a0, .inr (5, [.int (nI an), .int am, .int al, .int ao, .int au, .ref a1, .ref a2, .ref a3, .ref a4, .ref a5, .ref a6, .ref a7, .ref a8, .ref a9, .ref a10])), (a1, .inl (T 0, 10, .inl af1)), (a2, .inl (T 0, 10, .inl af2))] H locs := V _ [] rfl rfl rfl (by decide +kernel) rfl
                show W p l e _ s m args below meth c H locs _ _ _ (F0 m 72 ls [.int (nI 0)])
                refine lv_if_ne (tgt := 139) hx hb dX0_layFrom_72 (by decide) (fun c => absurd (show (nI 0) = 0 by decide +kernel) c) (fun _ => ?_)
                refine lv_aload_n hx hb dX0_layFrom_75 rfl (lv_at hl 1 rfl) ?_
                refine lv_aload_n hx hb dX0_layFrom_76 rfl (lv_at hl 2 rfl) ?_
                refine lv_iload_n hx hb dX0_layFrom_77 rfl (lv_at hl 3 rfl) ?_
                refine lv_iload hx hb dX0_layFrom_78 (lv_at hl 0 rfl) ?_
                refine g_callVU (nA := 3) hC V hl.1 (y_closes l D T y0 a0 0 k57 bv y1 y2 gb an am al ao au a1 a2 a3 a4 a5 a6 a7 a8 a9 a10 (by first | assumption | omega) hgb (by first | assumption | omega) (by first | assumption | omega)) w_810 w_812 w_s32 w_7 w_813 (by decide +kernel) rfl ⟨(Nat.le_of_ble_eq_true rfl), (Nat.le_of_ble_eq_true rfl)⟩ 0 (ci := 0) rfl rfl [0, 2, 3] rfl rfl (Nat.le_of_ble_eq_true rfl) dX0_layFrom_80 ⟨(Nat.le_of_ble_eq_true rfl), (Nat.le_of_ble_eq_true rfl)⟩ rfl (fun r w1 H locs hQ V => ?_)
                rcases hQ with ⟨rfl, rfl⟩ | ⟨rfl, rfl⟩
                · have V : gW D T A s [(y0, .inr (0, [.int bv, .ref y1, .ref y2])), (y1, .inl (T 0, 7, .inl ga)), (y2, .inl (T 0, 7, .inl gb)), (a0, .inr (5, [.int (nI an), .int am, .int al, .int ao, .int au, .ref a1, .ref a2, .ref a3, .ref a4, .ref a5, .ref a6, .ref a7, .ref a8, .ref a9, .ref a10])), (a1, .inl (T 0, 10, .inl af1)), (a2, .inl (T 0, 10, .inl af2))] H locs := V _ [0, 1, 0] rfl rfl rfl (by decide +kernel) rfl
                  show W p l e _ s m args below meth c H locs _ _ _ (F0 m 83 ls [.int (nI 1)])
                  refine lv_if_ne (tgt := 139) hx hb dX0_layFrom_83 (by decide) (fun _ => ?_) (fun c => absurd (show (nI 1) = 0 from c) (by decide +kernel))
                  refine lv_iinc (v := (nI (k57 + 1))) (lv' := [(5, .int (nI (k57 + 1))), (0, .ref y0), (1, .ref a0), (2, .int (nI 0)), (3, .int tk), (4, .int sum)]) hx hb dX0_layFrom_139 hl (k := 0) rfl (nI_1 _) (by decide) rfl (fun ls hl => ?_)
                  refine lv_goto (tgt := 57) hx hb dX0_layFrom_142 (by decide) ?_
                  exact ih_57 (k57 + 1) bv ga gb (by omega) (by assumption) (by omega) _ _ _ V (lv_sub hl [0, 1, 2, 3, 4, 5] rfl)
                · have V : gW D T A s [(y0, .inr (0, [.int bv, .ref y1, .ref y2])), (y1, .inl (T 0, 7, .inl ga)), (y2, .inl (T 0, 7, .inl gb)), (a0, .inr (5, [.int (nI an), .int am, .int al, .int ao, .int au, .ref a1, .ref a2, .ref a3, .ref a4, .ref a5, .ref a6, .ref a7, .ref a8, .ref a9, .ref a10])), (a1, .inl (T 0, 10, .inl af1)), (a2, .inl (T 0, 10, .inl af2))] H locs := V _ [0, 1, 0] rfl rfl rfl (by decide +kernel) rfl
                  show W p l e _ s m args below meth c H locs _ _ _ (F0 m 83 ls [.int (nI 0)])
                  refine lv_if_ne (tgt := 139) hx hb dX0_layFrom_83 (by decide) (fun c => absurd (show (nI 0) = 0 by decide +kernel) c) (fun _ => ?_)
                  refine lv_aload_n hx hb dX0_layFrom_86 rfl (lv_at hl 1 rfl) ?_
                  refine g_get hC V (ci := 0) uwX0 0 rfl rfl 2 (by decide) w_215 rfl rfl dX0_layFrom_87 ?_
                  refine lv_iload_n hx hb dX0_layFrom_90 rfl (lv_at hl 3 rfl) ?_
                  refine lv_iload hx hb dX0_layFrom_91 (lv_at hl 0 rfl) ?_
                  refine g_iast hC V 2 rfl (vp_in_nI (by decide) (by decide)) (f' := (upd gb 0 (nI k57))) (by rw [nI_clamp (by decide)]) (ws' := [(y0, .inr (0, [.int bv, .ref y1, .ref y2])), (y1, .inl (T 0, 7, .inl ga)), (y2, .inl (T 0, 7, .inl (upd gb 0 (nI k57)))), (a0, .inr (5, [.int (nI an), .int am, .int al, .int ao, .int au, .ref a1, .ref a2, .ref a3, .ref a4, .ref a5, .ref a6, .ref a7, .ref a8, .ref a9, .ref a10])), (a1, .inl (T 0, 10, .inl af1)), (a2, .inl (T 0, 10, .inl af2))]) rfl dX0_layFrom_93 (fun H locs V => ?_)
                  refine lv_aload_n hx hb dX0_layFrom_94 rfl (lv_at hl 2 rfl) ?_
                  refine g_get hC V (ci := 5) uwX5 3 rfl rfl 5 (by decide) w_52 rfl rfl dX0_layFrom_95 ?_
                  refine lv_iload_n hx hb dX0_layFrom_98 rfl (lv_at hl 3 rfl) ?_
                  refine g_iald hC V 4 rfl (vp_in_nI (by decide) (by decide)) (v := (af1 0)) (congrArg _ (nI_clamp (by decide))) dX0_layFrom_99 ?_
                  refine lv_aload_n hx hb dX0_layFrom_100 rfl (lv_at hl 2 rfl) ?_
                  refine g_get hC V (ci := 5) uwX5 3 rfl rfl 6 (by decide) w_58 rfl rfl dX0_layFrom_101 ?_
                  refine lv_iload hx hb dX0_layFrom_104 (lv_at hl 0 rfl) ?_
                  refine g_iald hC V 5 rfl (vp_in_nI (by omega) (by omega)) (v := (af2 k57)) (congrArg _ (nI_clamp (by omega))) dX0_layFrom_106 ?_
                  refine lv_isub hx hb dX0_layFrom_107 ?_
                  refine va_mabs hx hb (hml.trans hl.1.symm) hown (hts _ w_814) (hts _ w_815) (hts _ w_10) (hts _ w_816) (Nat.le_of_ble_eq_true rfl) (Nat.le_of_ble_eq_true rfl) (Nat.le_of_ble_eq_true rfl) (Nat.le_of_ble_eq_true rfl) dX0_layFrom_108 ?_
                  refine lv_topi (fun x_16 ex_16 => ?_)
                  refine lv_istore (lv' := [(6, .int x_16), (5, .int (nI k57)), (0, .ref y0), (1, .ref a0), (2, .int (nI 0)), (3, .int tk), (4, .int sum)]) hx hb dX0_layFrom_111 hl (by decide) rfl (fun ls hl => ?_)
                  refine lv_aload_n hx hb dX0_layFrom_113 rfl (lv_at hl 2 rfl) ?_
                  refine lv_aload_n hx hb dX0_layFrom_114 rfl (lv_at hl 3 rfl) ?_
                  refine lv_iload_n hx hb dX0_layFrom_115 rfl (lv_at hl 4 rfl) ?_
                  refine lv_iconst (v := (nI 1)) hx hb dX0_layFrom_116 (by decide +kernel) ?_
                  refine lv_iadd hx hb dX0_layFrom_117 ?_
                  refine g_vi (y := (nI 1)) (by decide +kernel) ?_
                  refine lv_iload_n hx hb dX0_layFrom_118 rfl (lv_at hl 5 rfl) ?_
                  refine lv_iconst (v := (nI 1)) hx hb dX0_layFrom_119 (by decide +kernel) ?_
                  refine lv_iload hx hb dX0_layFrom_120 (lv_at hl 1 rfl) ?_
                  refine lv_ishl hx hb dX0_layFrom_122 ?_
                  refine lv_ior hx hb dX0_layFrom_123 ?_
                  refine lv_iload hx hb dX0_layFrom_124 (lv_at hl 6 rfl) ?_
                  refine lv_iload hx hb dX0_layFrom_126 (lv_at hl 0 rfl) ?_
                  refine lv_iadd hx hb dX0_layFrom_128 ?_
                  refine g_callV (wr := []) (nA := 4) hC V hl.1 (y_lay1 l D T y0 a0 (tk ||| ((nI 1) <<< ((nI k57) &&& 31))) (sum + x_16) bv y1 y2 ga (upd gb 0 (nI k57)) an am al ao au a1 a2 a3 a4 a5 a6 a7 a8 a9 a10 af1 af2 (by first | assumption | omega) (up_all (p := fun x => x = -1 ∨ bd x 7) hgb (fun _ => Or.inr (bd_nI (by omega))))) w_804 w_806 w_s31 w_7 w_807 (by decide +kernel) rfl ⟨(Nat.le_of_ble_eq_true rfl), (Nat.le_of_ble_eq_true rfl)⟩ 0 (ci := 0) rfl rfl [0, 1, 2, 3, 4, 5] [] rfl rfl rfl rfl (by decide) (Nat.le_of_ble_eq_true rfl) dX0_layFrom_129 ⟨(Nat.le_of_ble_eq_true rfl), (Nat.le_of_ble_eq_true rfl)⟩ rfl (fun r w1 H locs hQ V => ?_)
                  obtain ⟨bs_17, g1_18, g2_19, rfl, rfl, f_20⟩ := hQ
                  have V : gW D T A s [(y0, .inr (0, [.int bs_17, .ref y1, .ref y2])), (y1, .inl (T 0, 7, .inl g1_18)), (y2, .inl (T 0, 7, .inl g2_19)), (a0, .inr (5, [.int (nI an), .int am, .int al, .int ao, .int au, .ref a1, .ref a2, .ref a3, .ref a4, .ref a5, .ref a6, .ref a7, .ref a8, .ref a9, .ref a10])), (a1, .inl (T 0, 10, .inl af1)), (a2, .inl (T 0, 10, .inl af2))] H locs := V
                  show W p l e _ s m args below meth c H locs _ _ _ (F0 m 132 ls [])
                  have hq := up_all (p := fun x => x = -1 ∨ bd x 7) (k := 0) (x := -1) f_20 (fun _ => Or.inl rfl)
                  refine lv_aload_n hx hb dX0_layFrom_132 rfl (lv_at hl 2 rfl) ?_
                  refine g_get hC V (ci := 0) uwX0 0 rfl rfl 2 (by decide) w_215 rfl rfl dX0_layFrom_133 ?_
                  refine lv_iload_n hx hb dX0_layFrom_136 rfl (lv_at hl 4 rfl) ?_
                  refine lv_iconst (v := (-1)) hx hb dX0_layFrom_137 (by decide +kernel) ?_
                  refine g_iast hC V 2 rfl (vp_in_nI (by decide) (by decide)) (f' := (upd g2_19 0 (-1))) (by rw [nI_clamp (by decide)]) (ws' := [(y0, .inr (0, [.int bs_17, .ref y1, .ref y2])), (y1, .inl (T 0, 7, .inl g1_18)), (y2, .inl (T 0, 7, .inl (upd g2_19 0 (-1)))), (a0, .inr (5, [.int (nI an), .int am, .int al, .int ao, .int au, .ref a1, .ref a2, .ref a3, .ref a4, .ref a5, .ref a6, .ref a7, .ref a8, .ref a9, .ref a10])), (a1, .inl (T 0, 10, .inl af1)), (a2, .inl (T 0, 10, .inl af2))]) rfl dX0_layFrom_138 (fun H locs V => ?_)
                  refine lv_iinc (v := (nI (k57 + 1))) (lv' := [(5, .int (nI (k57 + 1))), (6, .int x_16), (0, .ref y0), (1, .ref a0), (2, .int (nI 0)), (3, .int tk), (4, .int sum)]) hx hb dX0_layFrom_139 hl (k := 1) rfl (nI_1 _) (by decide) rfl (fun ls hl => ?_)
                  refine lv_goto (tgt := 57) hx hb dX0_layFrom_142 (by decide) ?_
                  exact ih_57 (k57 + 1) bs_17 g1_18 (upd g2_19 0 (-1)) (by omega) (by assumption) (by omega) _ _ _ V (lv_sub hl [0, 2, 3, 4, 5, 6] rfl)
        exact L_14 _ 0 ys yb yt (by omega) h_yt (Nat.lt_succ_self _) _ _ _ V (lv_sub hl [0, 1, 2, 3, 4, 5] rfl)
    · skip
      exact g_vret (Qr := (q_y_lay0 T y0 a0 tk sum ys y1 y2 yb yt an am al ao au a1 a2 a3 a4 a5 a6 a7 a8 a9 a10 af1 af2)) hC V ⟨(Nat.le_of_ble_eq_true rfl), (Nat.le_of_ble_eq_true rfl)⟩ ⟨ys, yb, yt, rfl, rfl, (by first | assumption | omega)⟩ dX0_layFrom_17

def q_y_seekBest (T : Nat → ClassId) (y0 : Nat) (a0 : Nat) (ys : Int32) (y1 : Nat) (y2 : Nat) (yb : Nat → Int32) (yt0 : Nat → Int32) (an : Nat) (am : Int32) (al : Int32) (ao : Int32) (au : Int32) (a1 : Nat) (a2 : Nat) (a3 : Nat) (a4 : Nat) (a5 : Nat) (a6 : Nat) (a7 : Nat) (a8 : Nat) (a9 : Nat) (a10 : Nat) (af1 : Nat → Int32) (af2 : Nat → Int32) : Option Value → va_W → Prop := fun rr ww => (∃ (bs : Int32) (g1 : Nat → Int32) (g2 : Nat → Int32), rr = none ∧ ww = [(y0, .inr (0, [.int bs, .ref y1, .ref y2])), (y1, .inl (T 0, 7, .inl g1)), (y2, .inl (T 0, 7, .inl g2)), (a0, .inr (5, [.int (nI an), .int am, .int al, .int ao, .int au, .ref a1, .ref a2, .ref a3, .ref a4, .ref a5, .ref a6, .ref a7, .ref a8, .ref a9, .ref a10])), (a1, .inl (T 0, 10, .inl af1)), (a2, .inl (T 0, 10, .inl af2))] ∧ (∀ i, i < 7 → (g2 i = -1 ∨ bd (g2 i) 7)))
set_option maxHeartbeats 4000000 in
set_option maxRecDepth 100000 in
theorem y_seekBest (l : Launch) (D : va_G) (T : Nat → ClassId) (y0 : Nat) (a0 : Nat) (ys : Int32) (y1 : Nat) (y2 : Nat) (yb : Nat → Int32) (yt0 : Nat → Int32) (an : Nat) (am : Int32) (al : Int32) (ao : Int32) (au : Int32) (a1 : Nat) (a2 : Nat) (a3 : Nat) (a4 : Nat) (a5 : Nat) (a6 : Nat) (a7 : Nat) (a8 : Nat) (a9 : Nat) (a10 : Nat) (af1 : Nat → Int32) (af2 : Nat → Int32) (h_n : an ≤ 7) : Ct l yX0_seekBest cX0_seekBest 2 none 10 0 0 D T [.ref y0, .ref a0] [(y0, .inr (0, [.int ys, .ref y1, .ref y2])), (y1, .inl (T 0, 7, .inl yb)), (y2, .inl (T 0, 7, .inl yt0)), (a0, .inr (5, [.int (nI an), .int am, .int al, .int ao, .int au, .ref a1, .ref a2, .ref a3, .ref a4, .ref a5, .ref a6, .ref a7, .ref a8, .ref a9, .ref a10])), (a1, .inl (T 0, 10, .inl af1)), (a2, .inl (T 0, 10, .inl af2))] (q_y_seekBest T y0 a0 ys y1 y2 yb yt0 an am al ao au a1 a2 a3 a4 a5 a6 a7 a8 a9 a10 af1 af2) := by
  refine Ct.of (cc := cX0_seekBest) (maxL := 2) (ret := none) (by decide) (Nat.le_of_ble_eq_true rfl) ?_
  intro p e s m args below meth c A ls hC hnm V hl
  obtain ⟨hx, hb, hr, hml, hown, hts, hlocks⟩ := id hC
  generalize hH : s.heap = H at V ⊢
  clear hH
  have hl : lv_has ls 2 [(0, .ref y0), (1, .ref a0)] := hl
  generalize hlo : ([] : List Loc) = locs at V ⊢
  clear hlo
  refine lv_aload_n hx hb dX0_seekBest_0 rfl (lv_at hl 0 rfl) ?_
  refine lv_iconst (v := (-1)) hx hb dX0_seekBest_1 (by decide +kernel) ?_
  refine g_put hC V (ci := 0) uwX0 tyX0 tyX0_ok nmX0 0 rfl rfl 0 (by decide) w_211 rfl rfl rfl rfl (Nat.le_of_ble_eq_true rfl) (ws' := [(y0, .inr (0, [.int (-1), .ref y1, .ref y2])), (y1, .inl (T 0, 7, .inl yb)), (y2, .inl (T 0, 7, .inl yt0)), (a0, .inr (5, [.int (nI an), .int am, .int al, .int ao, .int au, .ref a1, .ref a2, .ref a3, .ref a4, .ref a5, .ref a6, .ref a7, .ref a8, .ref a9, .ref a10])), (a1, .inl (T 0, 10, .inl af1)), (a2, .inl (T 0, 10, .inl af2))]) rfl dX0_seekBest_2 (fun H locs V => ?_)
  refine lv_aload_n hx hb dX0_seekBest_5 rfl (lv_at hl 0 rfl) ?_
  refine g_get hC V (ci := 0) uwX0 0 rfl rfl 2 (by decide) w_215 rfl rfl dX0_seekBest_6 ?_
  refine lv_iconst (v := (-1)) hx hb dX0_seekBest_9 (by decide +kernel) ?_
  refine g_callSU (nA := 2) hC V hl.1 (c_fill7 l D T y2 (-1) yt0) w_803 w_307 w_11 w_308 (by decide +kernel) rfl ⟨(Nat.le_of_ble_eq_true rfl), (Nat.le_of_ble_eq_true rfl)⟩ [2] rfl rfl (Nat.le_of_ble_eq_true rfl) dX0_seekBest_10 ⟨(Nat.le_of_ble_eq_true rfl), (Nat.le_of_ble_eq_true rfl)⟩ rfl (fun r w1 H locs hQ V => ?_)
  obtain ⟨g_1, rfl, rfl, f_2⟩ := hQ
  have V : gW D T A s [(y0, .inr (0, [.int (-1), .ref y1, .ref y2])), (y1, .inl (T 0, 7, .inl yb)), (y2, .inl (T 0, 7, .inl g_1)), (a0, .inr (5, [.int (nI an), .int am, .int al, .int ao, .int au, .ref a1, .ref a2, .ref a3, .ref a4, .ref a5, .ref a6, .ref a7, .ref a8, .ref a9, .ref a10])), (a1, .inl (T 0, 10, .inl af1)), (a2, .inl (T 0, 10, .inl af2))] H locs := V _ [2] rfl rfl rfl (by decide +kernel) rfl
  show W p l e _ s m args below meth c H locs _ _ _ (F0 m 13 ls [])
  have hfi := f_2
  refine lv_aload_n hx hb dX0_seekBest_13 rfl (lv_at hl 0 rfl) ?_
  refine lv_aload_n hx hb dX0_seekBest_14 rfl (lv_at hl 1 rfl) ?_
  refine lv_iconst (v := (nI 0)) hx hb dX0_seekBest_15 (by decide +kernel) ?_
  refine lv_iconst (v := (nI 0)) hx hb dX0_seekBest_16 (by decide +kernel) ?_
  refine lv_iconst (v := (nI 0)) hx hb dX0_seekBest_17 (by decide +kernel) ?_
  refine g_callV (wr := []) (nA := 4) hC V hl.1 (y_lay0 l D T y0 a0 (nI 0) (nI 0) (-1) y1 y2 yb g_1 an am al ao au a1 a2 a3 a4 a5 a6 a7 a8 a9 a10 af1 af2 (by first | assumption | omega) (fun i h => Or.inl (hfi i h))) w_804 w_806 w_s31 w_7 w_807 (by decide +kernel) rfl ⟨(Nat.le_of_ble_eq_true rfl), (Nat.le_of_ble_eq_true rfl)⟩ 0 (ci := 0) rfl rfl [0, 1, 2, 3, 4, 5] [] rfl rfl rfl rfl (by decide) (Nat.le_of_ble_eq_true rfl) dX0_seekBest_18 ⟨(Nat.le_of_ble_eq_true rfl), (Nat.le_of_ble_eq_true rfl)⟩ rfl (fun r w1 H locs hQ V => ?_)
  obtain ⟨bs_3, g1_4, g2_5, rfl, rfl, f_6⟩ := hQ
  have V : gW D T A s [(y0, .inr (0, [.int bs_3, .ref y1, .ref y2])), (y1, .inl (T 0, 7, .inl g1_4)), (y2, .inl (T 0, 7, .inl g2_5)), (a0, .inr (5, [.int (nI an), .int am, .int al, .int ao, .int au, .ref a1, .ref a2, .ref a3, .ref a4, .ref a5, .ref a6, .ref a7, .ref a8, .ref a9, .ref a10])), (a1, .inl (T 0, 10, .inl af1)), (a2, .inl (T 0, 10, .inl af2))] H locs := V
  show W p l e _ s m args below meth c H locs _ _ _ (F0 m 21 ls [])
  exact g_vret (Qr := (q_y_seekBest T y0 a0 ys y1 y2 yb yt0 an am al ao au a1 a2 a3 a4 a5 a6 a7 a8 a9 a10 af1 af2)) hC V ⟨(Nat.le_of_ble_eq_true rfl), (Nat.le_of_ble_eq_true rfl)⟩ ⟨bs_3, g1_4, g2_5, rfl, rfl, (by first | assumption | omega)⟩ dX0_seekBest_21

def q_e_meet (T : Nat → ClassId) (e0 : Nat) (v : Int64) (e1 : Nat) (e2 : Nat) (em : Nat) (e3 : Nat) (e4 : Nat) (e5 : Nat) (e6 : Nat) (ea : Nat → Int64) (eb : Nat → Int32) : Option Value → va_W → Prop := fun rr ww => (∃ (em2 : Nat) (g1 : Nat → Int64) (g2 : Nat → Int32), rr = none ∧ ww = [(e0, .inr (4, [.ref e1, .ref e2, .int (nI em2), .ref e3, .ref e4, .ref e5, .ref e6])), (e1, .inl (T 1, 3001, .inr (.inl g1))), (e2, .inl (T 0, 8192, .inl g2))] ∧ em ≤ em2 ∧ em2 ≤ 3001 ∧ (∀ i, i < 8192 → bd (g2 i) (em2 + 1)))
set_option maxHeartbeats 4000000 in
set_option maxRecDepth 100000 in
theorem e_meet (l : Launch) (D : va_G) (T : Nat → ClassId) (e0 : Nat) (v : Int64) (e1 : Nat) (e2 : Nat) (em : Nat) (e3 : Nat) (e4 : Nat) (e5 : Nat) (e6 : Nat) (ea : Nat → Int64) (eb : Nat → Int32) (h_m : em ≤ 3001) (h_sl : ∀ i, i < 8192 → bd (eb i) (em + 1)) : Ct l yX4_meet cX4_meet 5 none 0 0 0 D T [.ref e0, .long v] [(e0, .inr (4, [.ref e1, .ref e2, .int (nI em), .ref e3, .ref e4, .ref e5, .ref e6])), (e1, .inl (T 1, 3001, .inr (.inl ea))), (e2, .inl (T 0, 8192, .inl eb))] (q_e_meet T e0 v e1 e2 em e3 e4 e5 e6 ea eb) := by
  refine Ct.of (cc := cX4_meet) (maxL := 5) (ret := none) (by decide) (Nat.le_of_ble_eq_true rfl) ?_
  intro p e s m args below meth c A ls hC hnm V hl
  obtain ⟨hx, hb, hr, hml, hown, hts, hlocks⟩ := id hC
  generalize hH : s.heap = H at V ⊢
  clear hH
  have hl : lv_has ls 5 [(0, .ref e0), (1, .long v)] := hl
  generalize hlo : ([] : List Loc) = locs at V ⊢
  clear hlo
  refine lv_lload_n hx hb dX4_meet_0 rfl (lv_at hl 1 rfl) ?_
  refine lv_ldc2 (v := (-7046029254386353131)) hx hb hown (hts _ w_758) dX4_meet_1 ?_
  refine lv_lmul hx hb dX4_meet_4 ?_
  refine lv_bipush (v := (nI 51)) hx hb dX4_meet_5 (by decide +kernel) ?_
  refine lv_lushr hx hb dX4_meet_7 rfl ?_
  refine lv_l2i hx hb dX4_meet_8 rfl ?_
  obtain ⟨jh, hjh, ejh⟩ := hash_bd (v * (-7046029254386353131))
  refine g_vi (y := nI jh) ejh ?_
  refine lv_istore_n (lv' := [(3, .int (nI jh)), (0, .ref e0), (1, .long v)]) hx hb dX4_meet_9 rfl hl (by decide) rfl (fun ls hl => ?_)
  refine lv_iconst (v := (nI 0)) hx hb dX4_meet_10 (by decide +kernel) ?_
  refine lv_istore (lv' := [(4, .int (nI 0)), (3, .int (nI jh)), (0, .ref e0), (1, .long v)]) hx hb dX4_meet_11 hl (by decide) rfl (fun ls hl => ?_)
  have L_1 : ∀ (fu : Nat) (k13 : Nat) (sl : Nat), k13 ≤ 8192 → sl < 8192 → 8192 - k13 < fu → ∀ (H : Heap) (locs : List Loc) (ls : Array Slot), gW D T A s [(e0, .inr (4, [.ref e1, .ref e2, .int (nI em), .ref e3, .ref e4, .ref e5, .ref e6])), (e1, .inl (T 1, 3001, .inr (.inl ea))), (e2, .inl (T 0, 8192, .inl eb))] H locs → lv_has ls 5 [(4, .int (nI k13)), (3, .int (nI sl)), (0, .ref e0), (1, .long v)] → W p l e (rmD 0 0 0) s m args below meth c H locs 0 0 (MQ below (gQ D A (q_e_meet T e0 v e1 e2 em e3 e4 e5 e6 ea eb)) args s 0 0 A) (F0 m 13 ls []) := by
    intro fu_13
    induction fu_13 with
    | zero => intro k13 sl hk13 hsl hmu; exact absurd hmu (Nat.not_lt_zero _)
    | succ fu_13 ih_13 =>
      intro k13 sl hk13 hsl hmu_13 H locs ls V hl
      refine lv_iload hx hb dX4_meet_13 (lv_at hl 0 rfl) ?_
      refine lv_sipush (v := (nI 8192)) hx hb dX4_meet_15 (by decide +kernel) ?_
      refine lv_icmp_ge (tgt := 72) hx hb dX4_meet_18 (by decide) (fun c_2 => ?_) (fun c_2 => ?_)
      · skip
        have c_2 := b_le (by omega) (by omega) c_2
        refine lv_aload_n hx hb dX4_meet_72 rfl (lv_at hl 2 rfl) ?_
        refine g_get hC V (ci := 4) uwX4 0 rfl rfl 2 (by decide) w_715 rfl rfl dX4_meet_73 ?_
        refine lv_sipush (v := (nI 3000)) hx hb dX4_meet_76 (by decide +kernel) ?_
        refine lv_icmp_gt (tgt := 112) hx hb dX4_meet_79 (by decide) (fun c_3 => ?_) (fun c_3 => ?_)
        · skip
          have c_3 := b_lt (by omega) (by omega) c_3
          exact g_vret (Qr := (q_e_meet T e0 v e1 e2 em e3 e4 e5 e6 ea eb)) hC V ⟨(Nat.le_of_ble_eq_true rfl), (Nat.le_of_ble_eq_true rfl)⟩ ⟨em, ea, eb, rfl, rfl, (by omega), (by omega), h_sl⟩ dX4_meet_112
        · skip
          have c_3 := b_nlt (by omega) (by omega) c_3
          refine lv_aload_n hx hb dX4_meet_82 rfl (lv_at hl 2 rfl) ?_
          refine g_get hC V (ci := 4) uwX4 0 rfl rfl 0 (by decide) w_713 rfl rfl dX4_meet_83 ?_
          refine lv_aload_n hx hb dX4_meet_86 rfl (lv_at hl 2 rfl) ?_
          refine g_get hC V (ci := 4) uwX4 0 rfl rfl 2 (by decide) w_715 rfl rfl dX4_meet_87 ?_
          refine lv_lload_n hx hb dX4_meet_90 rfl (lv_at hl 3 rfl) ?_
          refine g_last hC V 1 rfl (vp_in_nI (by omega) (by omega)) (f' := (vp_updL ea em v)) (by rw [nI_clamp (by omega)]) (ws' := [(e0, .inr (4, [.ref e1, .ref e2, .int (nI em), .ref e3, .ref e4, .ref e5, .ref e6])), (e1, .inl (T 1, 3001, .inr (.inl (vp_updL ea em v)))), (e2, .inl (T 0, 8192, .inl eb))]) rfl dX4_meet_91 (fun H locs V => ?_)
          refine lv_aload_n hx hb dX4_meet_92 rfl (lv_at hl 2 rfl) ?_
          refine lv_dup hx hb dX4_meet_93 rfl ?_
          refine g_get hC V (ci := 4) uwX4 0 rfl rfl 2 (by decide) w_715 rfl rfl dX4_meet_94 ?_
          refine lv_iconst (v := (nI 1)) hx hb dX4_meet_97 (by decide +kernel) ?_
          refine lv_iadd hx hb dX4_meet_98 ?_
          refine g_vi (y := (nI (em + 1))) (nI_add _ _) ?_
          refine g_put hC V (ci := 4) uwX4 tyX4 tyX4_ok nmX4 0 rfl rfl 2 (by decide) w_715 rfl rfl rfl rfl (Nat.le_of_ble_eq_true rfl) (ws' := [(e0, .inr (4, [.ref e1, .ref e2, .int (nI (em + 1)), .ref e3, .ref e4, .ref e5, .ref e6])), (e1, .inl (T 1, 3001, .inr (.inl (vp_updL ea em v)))), (e2, .inl (T 0, 8192, .inl eb))]) rfl dX4_meet_99 (fun H locs V => ?_)
          refine lv_aload_n hx hb dX4_meet_102 rfl (lv_at hl 2 rfl) ?_
          refine g_get hC V (ci := 4) uwX4 0 rfl rfl 1 (by decide) w_714 rfl rfl dX4_meet_103 ?_
          refine lv_iload_n hx hb dX4_meet_106 rfl (lv_at hl 1 rfl) ?_
          refine lv_aload_n hx hb dX4_meet_107 rfl (lv_at hl 2 rfl) ?_
          refine g_get hC V (ci := 4) uwX4 0 rfl rfl 2 (by decide) w_715 rfl rfl dX4_meet_108 ?_
          refine g_iast hC V 2 rfl (vp_in_nI (by omega) (by omega)) (f' := (upd eb sl (nI (em + 1)))) (by rw [nI_clamp (by omega)]) (ws' := [(e0, .inr (4, [.ref e1, .ref e2, .int (nI (em + 1)), .ref e3, .ref e4, .ref e5, .ref e6])), (e1, .inl (T 1, 3001, .inr (.inl (vp_updL ea em v)))), (e2, .inl (T 0, 8192, .inl (upd eb sl (nI (em + 1)))))]) rfl dX4_meet_111 (fun H locs V => ?_)
          exact g_vret (Qr := (q_e_meet T e0 v e1 e2 em e3 e4 e5 e6 ea eb)) hC V ⟨(Nat.le_of_ble_eq_true rfl), (Nat.le_of_ble_eq_true rfl)⟩ ⟨(em + 1), (vp_updL ea em v), (upd eb sl (nI (em + 1))), rfl, rfl, (by omega), (by omega), (up_all (p := fun x => bd x (em + 1 + 1)) (fun i h => bd_le (h_sl i h) (by omega)) (fun _ => bd_nI (by omega)))⟩ dX4_meet_112
      · skip
        have c_2 := b_nle (by omega) (by omega) c_2
        refine lv_aload_n hx hb dX4_meet_21 rfl (lv_at hl 2 rfl) ?_
        refine g_get hC V (ci := 4) uwX4 0 rfl rfl 1 (by decide) w_714 rfl rfl dX4_meet_22 ?_
        refine lv_iload_n hx hb dX4_meet_25 rfl (lv_at hl 1 rfl) ?_
        obtain ⟨j_4, hj_4, ej_4⟩ := bd_ex (h_sl sl (by omega))
        refine g_iald hC V 2 rfl (vp_in_nI (by omega) (by omega)) (v := (nI j_4)) (by rw [nI_clamp (by omega)]; exact ej_4) dX4_meet_26 ?_
        refine lv_if_eq (tgt := 72) hx hb dX4_meet_27 (by decide) (fun c_5 => ?_) (fun c_5 => ?_)
        · skip
          rw [show (0 : Int32) = nI 0 from rfl] at c_5
          have c_5 := b_eq (by omega) (by omega) c_5
          refine lv_aload_n hx hb dX4_meet_72 rfl (lv_at hl 2 rfl) ?_
          refine g_get hC V (ci := 4) uwX4 0 rfl rfl 2 (by decide) w_715 rfl rfl dX4_meet_73 ?_
          refine lv_sipush (v := (nI 3000)) hx hb dX4_meet_76 (by decide +kernel) ?_
          refine lv_icmp_gt (tgt := 112) hx hb dX4_meet_79 (by decide) (fun c_6 => ?_) (fun c_6 => ?_)
          · skip
            have c_6 := b_lt (by omega) (by omega) c_6
            exact g_vret (Qr := (q_e_meet T e0 v e1 e2 em e3 e4 e5 e6 ea eb)) hC V ⟨(Nat.le_of_ble_eq_true rfl), (Nat.le_of_ble_eq_true rfl)⟩ ⟨em, ea, eb, rfl, rfl, (by omega), (by omega), h_sl⟩ dX4_meet_112
          · skip
            have c_6 := b_nlt (by omega) (by omega) c_6
            refine lv_aload_n hx hb dX4_meet_82 rfl (lv_at hl 2 rfl) ?_
            refine g_get hC V (ci := 4) uwX4 0 rfl rfl 0 (by decide) w_713 rfl rfl dX4_meet_83 ?_
            refine lv_aload_n hx hb dX4_meet_86 rfl (lv_at hl 2 rfl) ?_
            refine g_get hC V (ci := 4) uwX4 0 rfl rfl 2 (by decide) w_715 rfl rfl dX4_meet_87 ?_
            refine lv_lload_n hx hb dX4_meet_90 rfl (lv_at hl 3 rfl) ?_
            refine g_last hC V 1 rfl (vp_in_nI (by omega) (by omega)) (f' := (vp_updL ea em v)) (by rw [nI_clamp (by omega)]) (ws' := [(e0, .inr (4, [.ref e1, .ref e2, .int (nI em), .ref e3, .ref e4, .ref e5, .ref e6])), (e1, .inl (T 1, 3001, .inr (.inl (vp_updL ea em v)))), (e2, .inl (T 0, 8192, .inl eb))]) rfl dX4_meet_91 (fun H locs V => ?_)
            refine lv_aload_n hx hb dX4_meet_92 rfl (lv_at hl 2 rfl) ?_
            refine lv_dup hx hb dX4_meet_93 rfl ?_
            refine g_get hC V (ci := 4) uwX4 0 rfl rfl 2 (by decide) w_715 rfl rfl dX4_meet_94 ?_
            refine lv_iconst (v := (nI 1)) hx hb dX4_meet_97 (by decide +kernel) ?_
            refine lv_iadd hx hb dX4_meet_98 ?_
            refine g_vi (y := (nI (em + 1))) (nI_add _ _) ?_
            refine g_put hC V (ci := 4) uwX4 tyX4 tyX4_ok nmX4 0 rfl rfl 2 (by decide) w_715 rfl rfl rfl rfl (Nat.le_of_ble_eq_true rfl) (ws' := [(e0, .inr (4, [.ref e1, .ref e2, .int (nI (em + 1)), .ref e3, .ref e4, .ref e5, .ref e6])), (e1, .inl (T 1, 3001, .inr (.inl (vp_updL ea em v)))), (e2, .inl (T 0, 8192, .inl eb))]) rfl dX4_meet_99 (fun H locs V => ?_)
            refine lv_aload_n hx hb dX4_meet_102 rfl (lv_at hl 2 rfl) ?_
            refine g_get hC V (ci := 4) uwX4 0 rfl rfl 1 (by decide) w_714 rfl rfl dX4_meet_103 ?_
            refine lv_iload_n hx hb dX4_meet_106 rfl (lv_at hl 1 rfl) ?_
            refine lv_aload_n hx hb dX4_meet_107 rfl (lv_at hl 2 rfl) ?_
            refine g_get hC V (ci := 4) uwX4 0 rfl rfl 2 (by decide) w_715 rfl rfl dX4_meet_108 ?_
            refine g_iast hC V 2 rfl (vp_in_nI (by omega) (by omega)) (f' := (upd eb sl (nI (em + 1)))) (by rw [nI_clamp (by omega)]) (ws' := [(e0, .inr (4, [.ref e1, .ref e2, .int (nI (em + 1)), .ref e3, .ref e4, .ref e5, .ref e6])), (e1, .inl (T 1, 3001, .inr (.inl (vp_updL ea em v)))), (e2, .inl (T 0, 8192, .inl (upd eb sl (nI (em + 1)))))]) rfl dX4_meet_111 (fun H locs V => ?_)
            exact g_vret (Qr := (q_e_meet T e0 v e1 e2 em e3 e4 e5 e6 ea eb)) hC V ⟨(Nat.le_of_ble_eq_true rfl), (Nat.le_of_ble_eq_true rfl)⟩ ⟨(em + 1), (vp_updL ea em v), (upd eb sl (nI (em + 1))), rfl, rfl, (by omega), (by omega), (up_all (p := fun x => bd x (em + 1 + 1)) (fun i h => bd_le (h_sl i h) (by omega)) (fun _ => bd_nI (by omega)))⟩ dX4_meet_112
        · skip
          rw [show (0 : Int32) = nI 0 from rfl] at c_5
          have c_5 := b_ne (by omega) (by omega) c_5
          refine lv_aload_n hx hb dX4_meet_30 rfl (lv_at hl 2 rfl) ?_
          refine g_get hC V (ci := 4) uwX4 0 rfl rfl 0 (by decide) w_713 rfl rfl dX4_meet_31 ?_
          refine lv_aload_n hx hb dX4_meet_34 rfl (lv_at hl 2 rfl) ?_
          refine g_get hC V (ci := 4) uwX4 0 rfl rfl 1 (by decide) w_714 rfl rfl dX4_meet_35 ?_
          refine lv_iload_n hx hb dX4_meet_38 rfl (lv_at hl 1 rfl) ?_
          refine g_iald hC V 2 rfl (vp_in_nI (by omega) (by omega)) (v := (nI j_4)) (by rw [nI_clamp (by omega)]; exact ej_4) dX4_meet_39 ?_
          refine lv_iconst (v := (nI 1)) hx hb dX4_meet_40 (by decide +kernel) ?_
          refine lv_isub hx hb dX4_meet_41 ?_
          refine g_vi (y := (nI (j_4 - 1))) (nI_sub (by omega)) ?_
          refine g_lald hC V 1 rfl (vp_in_nI (by omega) (by omega)) (v := (ea (j_4 - 1))) (congrArg _ (nI_clamp (by omega))) dX4_meet_42 ?_
          refine lv_lload_n hx hb dX4_meet_43 rfl (lv_at hl 3 rfl) ?_
          refine W.lcmp hx hb dX4_meet_44 ?_
          refine lv_if_ne (tgt := 49) hx hb dX4_meet_45 (by decide) (fun c_7 => ?_) (fun c_7 => ?_)
          · skip
            refine lv_iload_n hx hb dX4_meet_49 rfl (lv_at hl 1 rfl) ?_
            refine lv_iconst (v := (nI 1)) hx hb dX4_meet_50 (by decide +kernel) ?_
            refine lv_iadd hx hb dX4_meet_51 ?_
            refine g_vi (y := (nI (sl + 1))) (nI_add _ _) ?_
            refine lv_sipush (v := (nI 8192)) hx hb dX4_meet_52 (by decide +kernel) ?_
            refine lv_icmp_ge (tgt := 64) hx hb dX4_meet_55 (by decide) (fun c_8 => ?_) (fun c_8 => ?_)
            · skip
              have c_8 := b_le (by omega) (by omega) c_8
              refine lv_iconst (v := (nI 0)) hx hb dX4_meet_64 (by decide +kernel) ?_
              refine lv_istore_n (lv' := [(3, .int (nI 0)), (4, .int (nI k13)), (0, .ref e0), (1, .long v)]) hx hb dX4_meet_65 rfl hl (by decide) rfl (fun ls hl => ?_)
              refine lv_iinc (v := (nI (k13 + 1))) (lv' := [(4, .int (nI (k13 + 1))), (3, .int (nI 0)), (0, .ref e0), (1, .long v)]) hx hb dX4_meet_66 hl (k := 1) rfl (nI_1 _) (by decide) rfl (fun ls hl => ?_)
              refine lv_goto (tgt := 13) hx hb dX4_meet_69 (by decide) ?_
              exact ih_13 (k13 + 1) 0 (by omega) (by omega) (by omega) _ _ _ V (lv_sub hl [0, 1, 2, 3] rfl)
            · skip
              have c_8 := b_nle (by omega) (by omega) c_8
              refine lv_iload_n hx hb dX4_meet_58 rfl (lv_at hl 1 rfl) ?_
              refine lv_iconst (v := (nI 1)) hx hb dX4_meet_59 (by decide +kernel) ?_
              refine lv_iadd hx hb dX4_meet_60 ?_
              refine g_vi (y := (nI (sl + 1))) (nI_add _ _) ?_
              refine lv_goto (tgt := 65) hx hb dX4_meet_61 (by decide) ?_
              refine lv_istore_n (lv' := [(3, .int (nI (sl + 1))), (4, .int (nI k13)), (0, .ref e0), (1, .long v)]) hx hb dX4_meet_65 rfl hl (by decide) rfl (fun ls hl => ?_)
              refine lv_iinc (v := (nI (k13 + 1))) (lv' := [(4, .int (nI (k13 + 1))), (3, .int (nI (sl + 1))), (0, .ref e0), (1, .long v)]) hx hb dX4_meet_66 hl (k := 1) rfl (nI_1 _) (by decide) rfl (fun ls hl => ?_)
              refine lv_goto (tgt := 13) hx hb dX4_meet_69 (by decide) ?_
              exact ih_13 (k13 + 1) (sl + 1) (by omega) (by omega) (by omega) _ _ _ V (lv_sub hl [0, 1, 2, 3] rfl)
          · skip
            exact g_vret (Qr := (q_e_meet T e0 v e1 e2 em e3 e4 e5 e6 ea eb)) hC V ⟨(Nat.le_of_ble_eq_true rfl), (Nat.le_of_ble_eq_true rfl)⟩ ⟨em, ea, eb, rfl, rfl, (by omega), (by omega), h_sl⟩ dX4_meet_48
  exact L_1 _ 0 jh (by omega) hjh (Nat.lt_succ_self _) _ _ _ V (lv_sub hl [0, 1, 2, 3] rfl)

def q_e_weigh (T : Nat → ClassId) (e0 : Nat) (a0 : Nat) (e1 : Nat) (e2 : Nat) (em : Nat) (e3 : Nat) (e4 : Nat) (e5 : Nat) (e6 : Nat) (ef : Nat → Int32) (an : Nat) (am : Int32) (al : Int32) (ao : Int32) (au : Int32) (a1 : Nat) (a2 : Nat) (a3 : Nat) (a4 : Nat) (a5 : Nat) (a6 : Nat) (a7 : Nat) (a8 : Nat) (a9 : Nat) (a10 : Nat) (af1 : Nat → Int32) (af2 : Nat → Int32) (af9 : Nat → Int32) : Option Value → va_W → Prop := fun rr ww => (∃ (g : Nat → Int32), rr = none ∧ ww = [(e0, .inr (4, [.ref e1, .ref e2, .int (nI em), .ref e3, .ref e4, .ref e5, .ref e6])), (e6, .inl (T 0, 24, .inl g)), (a0, .inr (5, [.int (nI an), .int am, .int al, .int ao, .int au, .ref a1, .ref a2, .ref a3, .ref a4, .ref a5, .ref a6, .ref a7, .ref a8, .ref a9, .ref a10])), (a1, .inl (T 0, 10, .inl af1)), (a2, .inl (T 0, 10, .inl af2)), (a9, .inl (T 0, 10, .inl af9))])
set_option maxHeartbeats 4000000 in
set_option maxRecDepth 100000 in
theorem e_weigh (l : Launch) (D : va_G) (T : Nat → ClassId) (e0 : Nat) (a0 : Nat) (e1 : Nat) (e2 : Nat) (em : Nat) (e3 : Nat) (e4 : Nat) (e5 : Nat) (e6 : Nat) (ef : Nat → Int32) (an : Nat) (am : Int32) (al : Int32) (ao : Int32) (au : Int32) (a1 : Nat) (a2 : Nat) (a3 : Nat) (a4 : Nat) (a5 : Nat) (a6 : Nat) (a7 : Nat) (a8 : Nat) (a9 : Nat) (a10 : Nat) (af1 : Nat → Int32) (af2 : Nat → Int32) (af9 : Nat → Int32) (h_n : an ≤ 3) : Ct l yX4_weighChanges cX4_weighChanges 4 none 2 0 0 D T [.ref e0, .ref a0] [(e0, .inr (4, [.ref e1, .ref e2, .int (nI em), .ref e3, .ref e4, .ref e5, .ref e6])), (e6, .inl (T 0, 24, .inl ef)), (a0, .inr (5, [.int (nI an), .int am, .int al, .int ao, .int au, .ref a1, .ref a2, .ref a3, .ref a4, .ref a5, .ref a6, .ref a7, .ref a8, .ref a9, .ref a10])), (a1, .inl (T 0, 10, .inl af1)), (a2, .inl (T 0, 10, .inl af2)), (a9, .inl (T 0, 10, .inl af9))] (q_e_weigh T e0 a0 e1 e2 em e3 e4 e5 e6 ef an am al ao au a1 a2 a3 a4 a5 a6 a7 a8 a9 a10 af1 af2 af9) := by
  refine Ct.of (cc := cX4_weighChanges) (maxL := 4) (ret := none) (by decide) (Nat.le_of_ble_eq_true rfl) ?_
  intro p e s m args below meth c A ls hC hnm V hl
  obtain ⟨hx, hb, hr, hml, hown, hts, hlocks⟩ := id hC
  generalize hH : s.heap = H at V ⊢
  clear hH
  have hl : lv_has ls 4 [(0, .ref e0), (1, .ref a0)] := hl
  generalize hlo : ([] : List Loc) = locs at V ⊢
  clear hlo
  have hpw := pw3 h_n
  refine lv_iconst (v := (nI 0)) hx hb dX4_weighChanges_0 (by decide +kernel) ?_
  refine lv_istore_n (lv' := [(2, .int (nI 0)), (0, .ref e0), (1, .ref a0)]) hx hb dX4_weighChanges_1 rfl hl (by decide) rfl (fun ls hl => ?_)
  have L_1 : ∀ (fu : Nat) (k2 : Nat) (ga : Nat → Int32), k2 ≤ 2 ^ an → 2 ^ an - k2 < fu → ∀ (H : Heap) (locs : List Loc) (ls : Array Slot), gW D T A s [(e0, .inr (4, [.ref e1, .ref e2, .int (nI em), .ref e3, .ref e4, .ref e5, .ref e6])), (e6, .inl (T 0, 24, .inl ga)), (a0, .inr (5, [.int (nI an), .int am, .int al, .int ao, .int au, .ref a1, .ref a2, .ref a3, .ref a4, .ref a5, .ref a6, .ref a7, .ref a8, .ref a9, .ref a10])), (a1, .inl (T 0, 10, .inl af1)), (a2, .inl (T 0, 10, .inl af2)), (a9, .inl (T 0, 10, .inl af9))] H locs → lv_has ls 4 [(2, .int (nI k2)), (0, .ref e0), (1, .ref a0)] → W p l e (rmD 2 0 0) s m args below meth c H locs 0 0 (MQ below (gQ D A (q_e_weigh T e0 a0 e1 e2 em e3 e4 e5 e6 ef an am al ao au a1 a2 a3 a4 a5 a6 a7 a8 a9 a10 af1 af2 af9)) args s 0 0 A) (F0 m 2 ls []) := by
    intro fu_2
    induction fu_2 with
    | zero => intro k2 ga hk2 hmu; exact absurd hmu (Nat.not_lt_zero _)
    | succ fu_2 ih_2 =>
      intro k2 ga hk2 hmu_2 H locs ls V hl
      refine lv_iload_n hx hb dX4_weighChanges_2 rfl (lv_at hl 0 rfl) ?_
      refine lv_aload_n hx hb dX4_weighChanges_3 rfl (lv_at hl 2 rfl) ?_
      refine g_callVU (nA := 0) hC V hl.1 (s_everyone l D T a0 an am al ao au a1 a2 a3 a4 a5 a6 a7 a8 a9 a10 (by first | assumption | omega)) w_744 w_463 w_464 w_3 w_465 (by decide +kernel) rfl ⟨(Nat.le_of_ble_eq_true rfl), (Nat.le_of_ble_eq_true rfl)⟩ 2 (ci := 5) rfl rfl [2] rfl rfl (Nat.le_of_ble_eq_true rfl) dX4_weighChanges_4 ⟨(Nat.le_of_ble_eq_true rfl), (Nat.le_of_ble_eq_true rfl)⟩ rfl (fun r w1 H locs hQ V => ?_)
      obtain ⟨rfl, rfl⟩ := hQ
      have V : gW D T A s [(e0, .inr (4, [.ref e1, .ref e2, .int (nI em), .ref e3, .ref e4, .ref e5, .ref e6])), (e6, .inl (T 0, 24, .inl ga)), (a0, .inr (5, [.int (nI an), .int am, .int al, .int ao, .int au, .ref a1, .ref a2, .ref a3, .ref a4, .ref a5, .ref a6, .ref a7, .ref a8, .ref a9, .ref a10])), (a1, .inl (T 0, 10, .inl af1)), (a2, .inl (T 0, 10, .inl af2)), (a9, .inl (T 0, 10, .inl af9))] H locs := V _ [2] rfl rfl rfl (by decide +kernel) rfl
      show W p l e _ s m args below meth c H locs _ _ _ (F0 m 7 ls [.int (nI (2 ^ an - 1)), .int (nI k2)])
      refine lv_icmp_gt (tgt := 55) hx hb dX4_weighChanges_7 (by decide) (fun c_2 => ?_) (fun c_2 => ?_)
      · skip
        have c_2 := b_lt (by omega) (by omega) c_2
        exact g_vret (Qr := (q_e_weigh T e0 a0 e1 e2 em e3 e4 e5 e6 ef an am al ao au a1 a2 a3 a4 a5 a6 a7 a8 a9 a10 af1 af2 af9)) hC V ⟨(Nat.le_of_ble_eq_true rfl), (Nat.le_of_ble_eq_true rfl)⟩ ⟨ga, rfl, rfl⟩ dX4_weighChanges_55
      · skip
        have c_2 := b_nlt (by omega) (by omega) c_2
        refine lv_iconst (v := (nI 0)) hx hb dX4_weighChanges_10 (by decide +kernel) ?_
        refine lv_istore_n (lv' := [(3, .int (nI 0)), (2, .int (nI k2)), (0, .ref e0), (1, .ref a0)]) hx hb dX4_weighChanges_11 rfl hl (by decide) rfl (fun ls hl => ?_)
        have L_3 : ∀ (fu : Nat) (k12 : Nat) (gb : Nat → Int32), k12 ≤ an → an - k12 < fu → ∀ (H : Heap) (locs : List Loc) (ls : Array Slot), gW D T A s [(e0, .inr (4, [.ref e1, .ref e2, .int (nI em), .ref e3, .ref e4, .ref e5, .ref e6])), (e6, .inl (T 0, 24, .inl gb)), (a0, .inr (5, [.int (nI an), .int am, .int al, .int ao, .int au, .ref a1, .ref a2, .ref a3, .ref a4, .ref a5, .ref a6, .ref a7, .ref a8, .ref a9, .ref a10])), (a1, .inl (T 0, 10, .inl af1)), (a2, .inl (T 0, 10, .inl af2)), (a9, .inl (T 0, 10, .inl af9))] H locs → lv_has ls 4 [(3, .int (nI k12)), (2, .int (nI k2)), (0, .ref e0), (1, .ref a0)] → W p l e (rmD 2 0 0) s m args below meth c H locs 0 0 (MQ below (gQ D A (q_e_weigh T e0 a0 e1 e2 em e3 e4 e5 e6 ef an am al ao au a1 a2 a3 a4 a5 a6 a7 a8 a9 a10 af1 af2 af9)) args s 0 0 A) (F0 m 12 ls []) := by
          intro fu_12
          induction fu_12 with
          | zero => intro k12 gb hk12 hmu; exact absurd hmu (Nat.not_lt_zero _)
          | succ fu_12 ih_12 =>
            intro k12 gb hk12 hmu_12 H locs ls V hl
            refine lv_iload_n hx hb dX4_weighChanges_12 rfl (lv_at hl 0 rfl) ?_
            refine lv_aload_n hx hb dX4_weighChanges_13 rfl (lv_at hl 3 rfl) ?_
            refine g_get hC V (ci := 5) uwX5 2 rfl rfl 0 (by decide) w_34 rfl rfl dX4_weighChanges_14 ?_
            refine lv_icmp_ge (tgt := 49) hx hb dX4_weighChanges_17 (by decide) (fun c_4 => ?_) (fun c_4 => ?_)
            · skip
              have c_4 := b_le (by omega) (by omega) c_4
              refine lv_iinc (v := (nI (k2 + 1))) (lv' := [(2, .int (nI (k2 + 1))), (3, .int (nI k12)), (0, .ref e0), (1, .ref a0)]) hx hb dX4_weighChanges_49 hl (k := 1) rfl (nI_1 _) (by decide) rfl (fun ls hl => ?_)
              refine lv_goto (tgt := 2) hx hb dX4_weighChanges_52 (by decide) ?_
              exact ih_2 (k2 + 1) gb (by omega) (by omega) _ _ _ V (lv_sub hl [0, 2, 3] rfl)
            · skip
              have c_4 := b_nle (by omega) (by omega) c_4
              refine lv_aload_n hx hb dX4_weighChanges_20 rfl (lv_at hl 2 rfl) ?_
              refine g_get hC V (ci := 4) uwX4 0 rfl rfl 6 (by decide) w_719 rfl rfl dX4_weighChanges_21 ?_
              refine lv_iconst (v := (nI 3)) hx hb dX4_weighChanges_24 (by decide +kernel) ?_
              refine lv_iload_n hx hb dX4_weighChanges_25 rfl (lv_at hl 1 rfl) ?_
              refine lv_imul hx hb dX4_weighChanges_26 ?_
              refine g_vi (y := (nI (3 * k2))) (pk_mul _ _) ?_
              refine lv_iload_n hx hb dX4_weighChanges_27 rfl (lv_at hl 0 rfl) ?_
              refine lv_iadd hx hb dX4_weighChanges_28 ?_
              refine g_vi (y := (nI ((3 * k2) + k12))) (nI_add _ _) ?_
              refine lv_aload_n hx hb dX4_weighChanges_29 rfl (lv_at hl 3 rfl) ?_
              refine lv_iload_n hx hb dX4_weighChanges_30 rfl (lv_at hl 0 rfl) ?_
              refine lv_iload_n hx hb dX4_weighChanges_31 rfl (lv_at hl 1 rfl) ?_
              refine g_callVU (nA := 2) hC V hl.1 (s_blastOn l D T a0 (nI k12) (nI k2) an am al ao au a1 a2 a3 a4 a5 a6 a7 a8 a9 a10 af1 af9 (by first | assumption | omega)) w_745 w_700 w_701 w_3 w_702 (by decide +kernel) rfl ⟨(Nat.le_of_ble_eq_true rfl), (Nat.le_of_ble_eq_true rfl)⟩ 2 (ci := 5) rfl rfl [2, 3, 5] rfl rfl (Nat.le_of_ble_eq_true rfl) dX4_weighChanges_32 ⟨(Nat.le_of_ble_eq_true rfl), (Nat.le_of_ble_eq_true rfl)⟩ rfl (fun r w1 H locs hQ V => ?_)
              obtain ⟨z_5, rfl, rfl⟩ := hQ
              have V : gW D T A s [(e0, .inr (4, [.ref e1, .ref e2, .int (nI em), .ref e3, .ref e4, .ref e5, .ref e6])), (e6, .inl (T 0, 24, .inl gb)), (a0, .inr (5, [.int (nI an), .int am, .int al, .int ao, .int au, .ref a1, .ref a2, .ref a3, .ref a4, .ref a5, .ref a6, .ref a7, .ref a8, .ref a9, .ref a10])), (a1, .inl (T 0, 10, .inl af1)), (a2, .inl (T 0, 10, .inl af2)), (a9, .inl (T 0, 10, .inl af9))] H locs := V _ [2, 0, 1] rfl rfl rfl (by decide +kernel) rfl
              show W p l e _ s m args below meth c H locs _ _ _ (F0 m 35 ls [.int z_5, .int (nI ((3 * k2) + k12)), .ref e6])
              refine lv_aload_n hx hb dX4_weighChanges_35 rfl (lv_at hl 3 rfl) ?_
              refine g_get hC V (ci := 5) uwX5 2 rfl rfl 6 (by decide) w_57 rfl rfl dX4_weighChanges_36 ?_
              refine lv_iload_n hx hb dX4_weighChanges_39 rfl (lv_at hl 0 rfl) ?_
              refine g_iald hC V 4 rfl (vp_in_nI (by omega) (by omega)) (v := (af2 k12)) (congrArg _ (nI_clamp (by omega))) dX4_weighChanges_40 ?_
              refine lv_isub hx hb dX4_weighChanges_41 ?_
              refine g_iast hC V 1 rfl (vp_in_nI (by omega) (by omega)) (f' := (upd gb ((3 * k2) + k12) (z_5 - (af2 k12)))) (by rw [nI_clamp (by omega)]) (ws' := [(e0, .inr (4, [.ref e1, .ref e2, .int (nI em), .ref e3, .ref e4, .ref e5, .ref e6])), (e6, .inl (T 0, 24, .inl (upd gb ((3 * k2) + k12) (z_5 - (af2 k12))))), (a0, .inr (5, [.int (nI an), .int am, .int al, .int ao, .int au, .ref a1, .ref a2, .ref a3, .ref a4, .ref a5, .ref a6, .ref a7, .ref a8, .ref a9, .ref a10])), (a1, .inl (T 0, 10, .inl af1)), (a2, .inl (T 0, 10, .inl af2)), (a9, .inl (T 0, 10, .inl af9))]) rfl dX4_weighChanges_42 (fun H locs V => ?_)
              refine lv_iinc (v := (nI (k12 + 1))) (lv' := [(3, .int (nI (k12 + 1))), (2, .int (nI k2)), (0, .ref e0), (1, .ref a0)]) hx hb dX4_weighChanges_43 hl (k := 0) rfl (nI_1 _) (by decide) rfl (fun ls hl => ?_)
              refine lv_goto (tgt := 12) hx hb dX4_weighChanges_46 (by decide) ?_
              exact ih_12 (k12 + 1) (upd gb ((3 * k2) + k12) (z_5 - (af2 k12))) (by omega) (by omega) _ _ _ V (lv_sub hl [0, 1, 2, 3] rfl)
        exact L_3 _ 0 ga (by omega) (Nat.lt_succ_self _) _ _ _ V (lv_sub hl [0, 1, 2, 3] rfl)
  exact L_1 _ 0 ef (by omega) (Nat.lt_succ_self _) _ _ _ V (lv_sub hl [0, 1, 2] rfl)

def q_e_packed (T : Nat → ClassId) (i : Int32) (x : Int32) (y : Int32) : Option Value → va_W → Prop := fun rr ww => (∃ (z : Int64), rr = some (.long z) ∧ ww = [])
set_option maxHeartbeats 4000000 in
set_option maxRecDepth 100000 in
theorem e_packed (l : Launch) (D : va_G) (T : Nat → ClassId) (i : Int32) (x : Int32) (y : Int32) : Ct l yX4_packed cX4_packed 3 (some .long) 0 0 0 D T [.int i, .int x, .int y] [] (q_e_packed T i x y) := by
  refine Ct.of (cc := cX4_packed) (maxL := 3) (ret := (some .long)) (by decide) (Nat.le_of_ble_eq_true rfl) ?_
  intro p e s m args below meth c A ls hC hnm V hl
  obtain ⟨hx, hb, hr, hml, hown, hts, hlocks⟩ := id hC
  generalize hH : s.heap = H at V ⊢
  clear hH
  have hl : lv_has ls 3 [(0, .int i), (1, .int x), (2, .int y)] := hl
  generalize hlo : ([] : List Loc) = locs at V ⊢
  clear hlo
  refine lv_iload_n hx hb dX4_packed_0 rfl (lv_at hl 1 rfl) ?_
  refine lv_iconst (v := (nI 5)) hx hb dX4_packed_1 (by decide +kernel) ?_
  refine lv_ishl hx hb dX4_packed_2 ?_
  refine lv_iload_n hx hb dX4_packed_3 rfl (lv_at hl 2 rfl) ?_
  refine lv_ior hx hb dX4_packed_4 ?_
  refine lv_i2l (v := ((x <<< ((nI 5) &&& 31)) ||| y).toInt64) hx hb dX4_packed_5 rfl ?_
  refine lv_iload_n hx hb dX4_packed_6 rfl (lv_at hl 0 rfl) ?_
  refine lv_bipush (v := (nI 13)) hx hb dX4_packed_7 (by decide +kernel) ?_
  refine lv_imul hx hb dX4_packed_9 ?_
  refine lv_lshl hx hb dX4_packed_10 rfl ?_
  refine lv_topl (fun y_1 ey_1 => ?_)
  exact g_lret (Qr := (q_e_packed T i x y)) hC V ⟨(Nat.le_of_ble_eq_true rfl), (Nat.le_of_ble_eq_true rfl)⟩ ⟨y_1, rfl, rfl⟩ dX4_packed_11

def q_e_meetPresent (T : Nat → ClassId) (e0 : Nat) (a0 : Nat) (e1 : Nat) (e2 : Nat) (em : Nat) (e3 : Nat) (e4 : Nat) (e5 : Nat) (e6 : Nat) (ea : Nat → Int64) (eb : Nat → Int32) (an : Nat) (am : Int32) (al : Int32) (ao : Int32) (au : Int32) (a1 : Nat) (a2 : Nat) (a3 : Nat) (a4 : Nat) (a5 : Nat) (a6 : Nat) (a7 : Nat) (a8 : Nat) (a9 : Nat) (a10 : Nat) (af3 : Nat → Int32) (af6 : Nat → Int32) (af7 : Nat → Int32) : Option Value → va_W → Prop := fun rr ww => (∃ (em2 : Nat) (g1 : Nat → Int64) (g2 : Nat → Int32), rr = none ∧ ww = [(e0, .inr (4, [.ref e1, .ref e2, .int (nI em2), .ref e3, .ref e4, .ref e5, .ref e6])), (e1, .inl (T 1, 3001, .inr (.inl g1))), (e2, .inl (T 0, 8192, .inl g2)), (a0, .inr (5, [.int (nI an), .int am, .int al, .int ao, .int au, .ref a1, .ref a2, .ref a3, .ref a4, .ref a5, .ref a6, .ref a7, .ref a8, .ref a9, .ref a10])), (a3, .inl (T 0, 10, .inl af3)), (a6, .inl (T 0, 10, .inl af6)), (a7, .inl (T 0, 10, .inl af7))] ∧ em ≤ em2 ∧ em2 ≤ 3001 ∧ (∀ i, i < 8192 → bd (g2 i) (em2 + 1)))
set_option maxHeartbeats 4000000 in
set_option maxRecDepth 100000 in
theorem e_meetPresent (l : Launch) (D : va_G) (T : Nat → ClassId) (e0 : Nat) (a0 : Nat) (e1 : Nat) (e2 : Nat) (em : Nat) (e3 : Nat) (e4 : Nat) (e5 : Nat) (e6 : Nat) (ea : Nat → Int64) (eb : Nat → Int32) (an : Nat) (am : Int32) (al : Int32) (ao : Int32) (au : Int32) (a1 : Nat) (a2 : Nat) (a3 : Nat) (a4 : Nat) (a5 : Nat) (a6 : Nat) (a7 : Nat) (a8 : Nat) (a9 : Nat) (a10 : Nat) (af3 : Nat → Int32) (af6 : Nat → Int32) (af7 : Nat → Int32) (h_m : em ≤ 3001) (h_sl : ∀ i, i < 8192 → bd (eb i) (em + 1)) (h_n : an ≤ 3) : Ct l yX4_meetPresent cX4_meetPresent 5 none 1 0 0 D T [.ref e0, .ref a0] [(e0, .inr (4, [.ref e1, .ref e2, .int (nI em), .ref e3, .ref e4, .ref e5, .ref e6])), (e1, .inl (T 1, 3001, .inr (.inl ea))), (e2, .inl (T 0, 8192, .inl eb)), (a0, .inr (5, [.int (nI an), .int am, .int al, .int ao, .int au, .ref a1, .ref a2, .ref a3, .ref a4, .ref a5, .ref a6, .ref a7, .ref a8, .ref a9, .ref a10])), (a3, .inl (T 0, 10, .inl af3)), (a6, .inl (T 0, 10, .inl af6)), (a7, .inl (T 0, 10, .inl af7))] (q_e_meetPresent T e0 a0 e1 e2 em e3 e4 e5 e6 ea eb an am al ao au a1 a2 a3 a4 a5 a6 a7 a8 a9 a10 af3 af6 af7) := by
  refine Ct.of (cc := cX4_meetPresent) (maxL := 5) (ret := none) (by decide) (Nat.le_of_ble_eq_true rfl) ?_
  intro p e s m args below meth c A ls hC hnm V hl
  obtain ⟨hx, hb, hr, hml, hown, hts, hlocks⟩ := id hC
  generalize hH : s.heap = H at V ⊢
  clear hH
  have hl : lv_has ls 5 [(0, .ref e0), (1, .ref a0)] := hl
  generalize hlo : ([] : List Loc) = locs at V ⊢
  clear hlo
  refine lv_lconst (v := (nI 0).toInt64) hx hb dX4_meetPresent_0 (by decide +kernel) ?_
  refine lv_lstore_n (lv' := [(2, .long (nI 0).toInt64), (0, .ref e0), (1, .ref a0)]) hx hb dX4_meetPresent_1 rfl hl (by decide) rfl (fun ls hl => ?_)
  refine lv_iconst (v := (nI 0)) hx hb dX4_meetPresent_2 (by decide +kernel) ?_
  refine lv_istore (lv' := [(4, .int (nI 0)), (2, .long (nI 0).toInt64), (0, .ref e0), (1, .ref a0)]) hx hb dX4_meetPresent_3 hl (by decide) rfl (fun ls hl => ?_)
  have L_1 : ∀ (fu : Nat) (k5 : Nat) (x5_2 : Int64), k5 ≤ an → an - k5 < fu → ∀ (H : Heap) (locs : List Loc) (ls : Array Slot), gW D T A s [(e0, .inr (4, [.ref e1, .ref e2, .int (nI em), .ref e3, .ref e4, .ref e5, .ref e6])), (e1, .inl (T 1, 3001, .inr (.inl ea))), (e2, .inl (T 0, 8192, .inl eb)), (a0, .inr (5, [.int (nI an), .int am, .int al, .int ao, .int au, .ref a1, .ref a2, .ref a3, .ref a4, .ref a5, .ref a6, .ref a7, .ref a8, .ref a9, .ref a10])), (a3, .inl (T 0, 10, .inl af3)), (a6, .inl (T 0, 10, .inl af6)), (a7, .inl (T 0, 10, .inl af7))] H locs → lv_has ls 5 [(4, .int (nI k5)), (2, .long x5_2), (0, .ref e0), (1, .ref a0)] → W p l e (rmD 1 0 0) s m args below meth c H locs 0 0 (MQ below (gQ D A (q_e_meetPresent T e0 a0 e1 e2 em e3 e4 e5 e6 ea eb an am al ao au a1 a2 a3 a4 a5 a6 a7 a8 a9 a10 af3 af6 af7)) args s 0 0 A) (F0 m 5 ls []) := by
    intro fu_5
    induction fu_5 with
    | zero => intro k5 x5_2 hk5 hmu; exact absurd hmu (Nat.not_lt_zero _)
    | succ fu_5 ih_5 =>
      intro k5 x5_2 hk5 hmu_5 H locs ls V hl
      refine lv_iload hx hb dX4_meetPresent_5 (lv_at hl 0 rfl) ?_
      refine lv_aload_n hx hb dX4_meetPresent_7 rfl (lv_at hl 3 rfl) ?_
      refine g_get hC V (ci := 5) uwX5 3 rfl rfl 0 (by decide) w_34 rfl rfl dX4_meetPresent_8 ?_
      refine lv_icmp_ge (tgt := 52) hx hb dX4_meetPresent_11 (by decide) (fun c_2 => ?_) (fun c_2 => ?_)
      · skip
        have c_2 := b_le (by omega) (by omega) c_2
        refine lv_aload_n hx hb dX4_meetPresent_52 rfl (lv_at hl 2 rfl) ?_
        refine lv_lload_n hx hb dX4_meetPresent_53 rfl (lv_at hl 1 rfl) ?_
        refine g_callVU (nA := 1) hC V hl.1 (e_meet l D T e0 x5_2 e1 e2 em e3 e4 e5 e6 ea eb (by first | assumption | omega) (by first | assumption | omega)) w_754 w_756 w_s25 w_18 w_757 (by decide +kernel) rfl ⟨(Nat.le_of_ble_eq_true rfl), (Nat.le_of_ble_eq_true rfl)⟩ 0 (ci := 4) rfl rfl [0, 1, 2] rfl rfl (Nat.le_of_ble_eq_true rfl) dX4_meetPresent_54 ⟨(Nat.le_of_ble_eq_true rfl), (Nat.le_of_ble_eq_true rfl)⟩ rfl (fun r w1 H locs hQ V => ?_)
        obtain ⟨em2_3, g1_4, g2_5, rfl, rfl, f_6, f_7, f_8⟩ := hQ
        have V : gW D T A s [(e0, .inr (4, [.ref e1, .ref e2, .int (nI em2_3), .ref e3, .ref e4, .ref e5, .ref e6])), (e1, .inl (T 1, 3001, .inr (.inl g1_4))), (e2, .inl (T 0, 8192, .inl g2_5)), (a0, .inr (5, [.int (nI an), .int am, .int al, .int ao, .int au, .ref a1, .ref a2, .ref a3, .ref a4, .ref a5, .ref a6, .ref a7, .ref a8, .ref a9, .ref a10])), (a3, .inl (T 0, 10, .inl af3)), (a6, .inl (T 0, 10, .inl af6)), (a7, .inl (T 0, 10, .inl af7))] H locs := V _ [0, 0, 0] rfl rfl rfl (by decide +kernel) rfl
        show W p l e _ s m args below meth c H locs _ _ _ (F0 m 57 ls [])
        exact g_vret (Qr := (q_e_meetPresent T e0 a0 e1 e2 em e3 e4 e5 e6 ea eb an am al ao au a1 a2 a3 a4 a5 a6 a7 a8 a9 a10 af3 af6 af7)) hC V ⟨(Nat.le_of_ble_eq_true rfl), (Nat.le_of_ble_eq_true rfl)⟩ ⟨em2_3, g1_4, g2_5, rfl, rfl, (by first | assumption | omega), (by first | assumption | omega), (by first | assumption | omega)⟩ dX4_meetPresent_57
      · skip
        have c_2 := b_nle (by omega) (by omega) c_2
        refine lv_lload_n hx hb dX4_meetPresent_14 rfl (lv_at hl 1 rfl) ?_
        refine lv_iload hx hb dX4_meetPresent_15 (lv_at hl 0 rfl) ?_
        refine lv_aload_n hx hb dX4_meetPresent_17 rfl (lv_at hl 3 rfl) ?_
        refine g_get hC V (ci := 5) uwX5 3 rfl rfl 7 (by decide) w_63 rfl rfl dX4_meetPresent_18 ?_
        refine lv_iload hx hb dX4_meetPresent_21 (lv_at hl 0 rfl) ?_
        refine g_iald hC V 4 rfl (vp_in_nI (by omega) (by omega)) (v := (af3 k5)) (congrArg _ (nI_clamp (by omega))) dX4_meetPresent_23 ?_
        refine lv_aload_n hx hb dX4_meetPresent_24 rfl (lv_at hl 3 rfl) ?_
        refine g_get hC V (ci := 5) uwX5 3 rfl rfl 11 (by decide) w_78 rfl rfl dX4_meetPresent_25 ?_
        refine lv_iload hx hb dX4_meetPresent_28 (lv_at hl 0 rfl) ?_
        refine g_iald hC V 6 rfl (vp_in_nI (by omega) (by omega)) (v := (af7 k5)) (congrArg _ (nI_clamp (by omega))) dX4_meetPresent_30 ?_
        refine lv_aload_n hx hb dX4_meetPresent_31 rfl (lv_at hl 3 rfl) ?_
        refine g_get hC V (ci := 5) uwX5 3 rfl rfl 10 (by decide) w_75 rfl rfl dX4_meetPresent_32 ?_
        refine lv_iload hx hb dX4_meetPresent_35 (lv_at hl 0 rfl) ?_
        refine g_iald hC V 5 rfl (vp_in_nI (by omega) (by omega)) (v := (af6 k5)) (congrArg _ (nI_clamp (by omega))) dX4_meetPresent_37 ?_
        refine va_mmin hx hb (hml.trans hl.1.symm) hown (hts _ w_750) (hts _ w_300) (hts _ w_10) (hts _ w_301) (Nat.le_of_ble_eq_true rfl) (Nat.le_of_ble_eq_true rfl) (Nat.le_of_ble_eq_true rfl) (Nat.le_of_ble_eq_true rfl) dX4_meetPresent_38 ?_
        refine g_callSU (nA := 3) hC V hl.1 (e_packed l D T (nI k5) (af3 k5) (if (af6 k5) < (af7 k5) then (af6 k5) else (af7 k5))) w_751 w_752 w_18 w_753 (by decide +kernel) rfl ⟨(Nat.le_of_ble_eq_true rfl), (Nat.le_of_ble_eq_true rfl)⟩ [] rfl rfl (Nat.le_of_ble_eq_true rfl) dX4_meetPresent_41 ⟨(Nat.le_of_ble_eq_true rfl), (Nat.le_of_ble_eq_true rfl)⟩ rfl (fun r w1 H locs hQ V => ?_)
        obtain ⟨z_9, rfl, rfl⟩ := hQ
        have V : gW D T A s [(e0, .inr (4, [.ref e1, .ref e2, .int (nI em), .ref e3, .ref e4, .ref e5, .ref e6])), (e1, .inl (T 1, 3001, .inr (.inl ea))), (e2, .inl (T 0, 8192, .inl eb)), (a0, .inr (5, [.int (nI an), .int am, .int al, .int ao, .int au, .ref a1, .ref a2, .ref a3, .ref a4, .ref a5, .ref a6, .ref a7, .ref a8, .ref a9, .ref a10])), (a3, .inl (T 0, 10, .inl af3)), (a6, .inl (T 0, 10, .inl af6)), (a7, .inl (T 0, 10, .inl af7))] H locs := V _ [] rfl rfl rfl (by decide +kernel) rfl
        show W p l e _ s m args below meth c H locs _ _ _ (F0 m 44 ls [.long z_9, .long x5_2])
        refine lv_lor hx hb dX4_meetPresent_44 ?_
        refine lv_lstore_n (lv' := [(2, .long (x5_2 ||| z_9)), (4, .int (nI k5)), (0, .ref e0), (1, .ref a0)]) hx hb dX4_meetPresent_45 rfl hl (by decide) rfl (fun ls hl => ?_)
        refine lv_iinc (v := (nI (k5 + 1))) (lv' := [(4, .int (nI (k5 + 1))), (2, .long (x5_2 ||| z_9)), (0, .ref e0), (1, .ref a0)]) hx hb dX4_meetPresent_46 hl (k := 1) rfl (nI_1 _) (by decide) rfl (fun ls hl => ?_)
        refine lv_goto (tgt := 5) hx hb dX4_meetPresent_49 (by decide) ?_
        exact ih_5 (k5 + 1) (x5_2 ||| z_9) (by omega) (by omega) _ _ _ V (lv_sub hl [0, 1, 2, 3] rfl)
  exact L_1 _ 0 ((nI 0).toInt64) (by omega) (Nat.lt_succ_self _) _ _ _ V (lv_sub hl [0, 1, 2, 3] rfl)

def q_e_unpack (T : Nat → ClassId) (e0 : Nat) (a0 : Nat) (v : Int64) (e1 : Nat) (e2 : Nat) (em : Nat) (e3 : Nat) (e4 : Nat) (e5 : Nat) (e6 : Nat) (ec : Nat → Int32) (ed : Nat → Int32) (an : Nat) (am : Int32) (al : Int32) (ao : Int32) (au : Int32) (a1 : Nat) (a2 : Nat) (a3 : Nat) (a4 : Nat) (a5 : Nat) (a6 : Nat) (a7 : Nat) (a8 : Nat) (a9 : Nat) (a10 : Nat) : Option Value → va_W → Prop := fun rr ww => (∃ (gc : Nat → Int32) (gd : Nat → Int32), rr = none ∧ ww = [(e0, .inr (4, [.ref e1, .ref e2, .int (nI em), .ref e3, .ref e4, .ref e5, .ref e6])), (e3, .inl (T 0, 3, .inl gc)), (e4, .inl (T 0, 3, .inl gd)), (a0, .inr (5, [.int (nI an), .int am, .int al, .int ao, .int au, .ref a1, .ref a2, .ref a3, .ref a4, .ref a5, .ref a6, .ref a7, .ref a8, .ref a9, .ref a10]))])
set_option maxHeartbeats 4000000 in
set_option maxRecDepth 100000 in
theorem e_unpack (l : Launch) (D : va_G) (T : Nat → ClassId) (e0 : Nat) (a0 : Nat) (v : Int64) (e1 : Nat) (e2 : Nat) (em : Nat) (e3 : Nat) (e4 : Nat) (e5 : Nat) (e6 : Nat) (ec : Nat → Int32) (ed : Nat → Int32) (an : Nat) (am : Int32) (al : Int32) (ao : Int32) (au : Int32) (a1 : Nat) (a2 : Nat) (a3 : Nat) (a4 : Nat) (a5 : Nat) (a6 : Nat) (a7 : Nat) (a8 : Nat) (a9 : Nat) (a10 : Nat) (h_n : an ≤ 3) : Ct l yX4_unpack cX4_unpack 6 none 0 0 0 D T [.ref e0, .ref a0, .long v] [(e0, .inr (4, [.ref e1, .ref e2, .int (nI em), .ref e3, .ref e4, .ref e5, .ref e6])), (e3, .inl (T 0, 3, .inl ec)), (e4, .inl (T 0, 3, .inl ed)), (a0, .inr (5, [.int (nI an), .int am, .int al, .int ao, .int au, .ref a1, .ref a2, .ref a3, .ref a4, .ref a5, .ref a6, .ref a7, .ref a8, .ref a9, .ref a10]))] (q_e_unpack T e0 a0 v e1 e2 em e3 e4 e5 e6 ec ed an am al ao au a1 a2 a3 a4 a5 a6 a7 a8 a9 a10) := by
  refine Ct.of (cc := cX4_unpack) (maxL := 6) (ret := none) (by decide) (Nat.le_of_ble_eq_true rfl) ?_
  intro p e s m args below meth c A ls hC hnm V hl
  obtain ⟨hx, hb, hr, hml, hown, hts, hlocks⟩ := id hC
  generalize hH : s.heap = H at V ⊢
  clear hH
  have hl : lv_has ls 6 [(0, .ref e0), (1, .ref a0), (2, .long v)] := hl
  generalize hlo : ([] : List Loc) = locs at V ⊢
  clear hlo
  refine lv_iconst (v := (nI 0)) hx hb dX4_unpack_0 (by decide +kernel) ?_
  refine lv_istore (lv' := [(4, .int (nI 0)), (0, .ref e0), (1, .ref a0), (2, .long v)]) hx hb dX4_unpack_1 hl (by decide) rfl (fun ls hl => ?_)
  have L_1 : ∀ (fu : Nat) (k3 : Nat) (ga : Nat → Int32) (gb : Nat → Int32), k3 ≤ an → an - k3 < fu → ∀ (H : Heap) (locs : List Loc) (ls : Array Slot), gW D T A s [(e0, .inr (4, [.ref e1, .ref e2, .int (nI em), .ref e3, .ref e4, .ref e5, .ref e6])), (e3, .inl (T 0, 3, .inl ga)), (e4, .inl (T 0, 3, .inl gb)), (a0, .inr (5, [.int (nI an), .int am, .int al, .int ao, .int au, .ref a1, .ref a2, .ref a3, .ref a4, .ref a5, .ref a6, .ref a7, .ref a8, .ref a9, .ref a10]))] H locs → lv_has ls 6 [(4, .int (nI k3)), (0, .ref e0), (1, .ref a0), (2, .long v)] → W p l e (rmD 0 0 0) s m args below meth c H locs 0 0 (MQ below (gQ D A (q_e_unpack T e0 a0 v e1 e2 em e3 e4 e5 e6 ec ed an am al ao au a1 a2 a3 a4 a5 a6 a7 a8 a9 a10)) args s 0 0 A) (F0 m 3 ls []) := by
    intro fu_3
    induction fu_3 with
    | zero => intro k3 ga gb hk3 hmu; exact absurd hmu (Nat.not_lt_zero _)
    | succ fu_3 ih_3 =>
      intro k3 ga gb hk3 hmu_3 H locs ls V hl
      refine lv_iload hx hb dX4_unpack_3 (lv_at hl 0 rfl) ?_
      refine lv_aload_n hx hb dX4_unpack_5 rfl (lv_at hl 2 rfl) ?_
      refine g_get hC V (ci := 5) uwX5 3 rfl rfl 0 (by decide) w_34 rfl rfl dX4_unpack_6 ?_
      refine lv_icmp_ge (tgt := 61) hx hb dX4_unpack_9 (by decide) (fun c_2 => ?_) (fun c_2 => ?_)
      · skip
        have c_2 := b_le (by omega) (by omega) c_2
        exact g_vret (Qr := (q_e_unpack T e0 a0 v e1 e2 em e3 e4 e5 e6 ec ed an am al ao au a1 a2 a3 a4 a5 a6 a7 a8 a9 a10)) hC V ⟨(Nat.le_of_ble_eq_true rfl), (Nat.le_of_ble_eq_true rfl)⟩ ⟨ga, gb, rfl, rfl⟩ dX4_unpack_61
      · skip
        have c_2 := b_nle (by omega) (by omega) c_2
        refine lv_iload hx hb dX4_unpack_12 (lv_at hl 0 rfl) ?_
        refine lv_iconst (v := (nI 3)) hx hb dX4_unpack_14 (by decide +kernel) ?_
        refine lv_icmp_ge (tgt := 61) hx hb dX4_unpack_15 (by decide) (fun c_3 => ?_) (fun c_3 => ?_)
        · skip
          have c_3 := b_le (by omega) (by omega) c_3
          exact g_vret (Qr := (q_e_unpack T e0 a0 v e1 e2 em e3 e4 e5 e6 ec ed an am al ao au a1 a2 a3 a4 a5 a6 a7 a8 a9 a10)) hC V ⟨(Nat.le_of_ble_eq_true rfl), (Nat.le_of_ble_eq_true rfl)⟩ ⟨ga, gb, rfl, rfl⟩ dX4_unpack_61
        · skip
          have c_3 := b_nle (by omega) (by omega) c_3
          refine lv_lload_n hx hb dX4_unpack_18 rfl (lv_at hl 3 rfl) ?_
          refine lv_iload hx hb dX4_unpack_19 (lv_at hl 0 rfl) ?_
          refine lv_bipush (v := (nI 13)) hx hb dX4_unpack_21 (by decide +kernel) ?_
          refine lv_imul hx hb dX4_unpack_23 ?_
          refine g_vi (y := (nI (k3 * 13))) (pk_mul _ _) ?_
          refine lv_lshr hx hb dX4_unpack_24 rfl ?_
          refine lv_l2i hx hb dX4_unpack_25 rfl ?_
          refine lv_istore (lv' := [(5, .int ((v >>> (((nI (k3 * 13))).toInt64 &&& 63)).toInt32)), (4, .int (nI k3)), (0, .ref e0), (1, .ref a0), (2, .long v)]) hx hb dX4_unpack_26 hl (by decide) rfl (fun ls hl => ?_)
          refine lv_aload_n hx hb dX4_unpack_28 rfl (lv_at hl 2 rfl) ?_
          refine g_get hC V (ci := 4) uwX4 0 rfl rfl 4 (by decide) w_717 rfl rfl dX4_unpack_29 ?_
          refine lv_iload hx hb dX4_unpack_32 (lv_at hl 1 rfl) ?_
          refine lv_iload hx hb dX4_unpack_34 (lv_at hl 0 rfl) ?_
          refine lv_bipush (v := (nI 31)) hx hb dX4_unpack_36 (by decide +kernel) ?_
          refine lv_iand hx hb dX4_unpack_38 ?_
          refine lv_topi (fun x_4 ex_4 => ?_)
          refine g_iast hC V 2 rfl (vp_in_nI (by omega) (by omega)) (f' := (upd gb k3 x_4)) (by rw [nI_clamp (by omega)]) (ws' := [(e0, .inr (4, [.ref e1, .ref e2, .int (nI em), .ref e3, .ref e4, .ref e5, .ref e6])), (e3, .inl (T 0, 3, .inl ga)), (e4, .inl (T 0, 3, .inl (upd gb k3 x_4))), (a0, .inr (5, [.int (nI an), .int am, .int al, .int ao, .int au, .ref a1, .ref a2, .ref a3, .ref a4, .ref a5, .ref a6, .ref a7, .ref a8, .ref a9, .ref a10]))]) rfl dX4_unpack_39 (fun H locs V => ?_)
          refine lv_aload_n hx hb dX4_unpack_40 rfl (lv_at hl 2 rfl) ?_
          refine g_get hC V (ci := 4) uwX4 0 rfl rfl 3 (by decide) w_716 rfl rfl dX4_unpack_41 ?_
          refine lv_iload hx hb dX4_unpack_44 (lv_at hl 1 rfl) ?_
          refine lv_iload hx hb dX4_unpack_46 (lv_at hl 0 rfl) ?_
          refine lv_iconst (v := (nI 5)) hx hb dX4_unpack_48 (by decide +kernel) ?_
          refine lv_ishr hx hb dX4_unpack_49 ?_
          refine lv_topi (fun x_5 ex_5 => ?_)
          refine lv_sipush (v := (nI 255)) hx hb dX4_unpack_50 (by decide +kernel) ?_
          refine lv_iand hx hb dX4_unpack_53 ?_
          refine g_iast hC V 1 rfl (vp_in_nI (by omega) (by omega)) (f' := (upd ga k3 (x_5 &&& (nI 255)))) (by rw [nI_clamp (by omega)]) (ws' := [(e0, .inr (4, [.ref e1, .ref e2, .int (nI em), .ref e3, .ref e4, .ref e5, .ref e6])), (e3, .inl (T 0, 3, .inl (upd ga k3 (x_5 &&& (nI 255))))), (e4, .inl (T 0, 3, .inl (upd gb k3 x_4))), (a0, .inr (5, [.int (nI an), .int am, .int al, .int ao, .int au, .ref a1, .ref a2, .ref a3, .ref a4, .ref a5, .ref a6, .ref a7, .ref a8, .ref a9, .ref a10]))]) rfl dX4_unpack_54 (fun H locs V => ?_)
          refine lv_iinc (v := (nI (k3 + 1))) (lv' := [(4, .int (nI (k3 + 1))), (5, .int ((v >>> (((nI (k3 * 13))).toInt64 &&& 63)).toInt32)), (0, .ref e0), (1, .ref a0), (2, .long v)]) hx hb dX4_unpack_55 hl (k := 1) rfl (nI_1 _) (by decide) rfl (fun ls hl => ?_)
          refine lv_goto (tgt := 3) hx hb dX4_unpack_58 (by decide) ?_
          exact ih_3 (k3 + 1) (upd ga k3 (x_5 &&& (nI 255))) (upd gb k3 x_4) (by omega) (by omega) _ _ _ V (lv_sub hl [0, 2, 3, 4] rfl)
  exact L_1 _ 0 ec ed (by omega) (Nat.lt_succ_self _) _ _ _ V (lv_sub hl [0, 1, 2, 3] rfl)

def q_e_canStrike (T : Nat → ClassId) (e0 : Nat) (a0 : Nat) (j : Nat) (e1 : Nat) (e2 : Nat) (em : Nat) (e3 : Nat) (e4 : Nat) (e5 : Nat) (e6 : Nat) (ec : Nat → Int32) (ed : Nat → Int32) (an : Nat) (am : Int32) (al : Int32) (ao : Int32) (au : Int32) (a1 : Nat) (a2 : Nat) (a3 : Nat) (a4 : Nat) (a5 : Nat) (a6 : Nat) (a7 : Nat) (a8 : Nat) (a9 : Nat) (a10 : Nat) (af4 : Nat → Int32) (af5 : Nat → Int32) (af6 : Nat → Int32) : Option Value → va_W → Prop := fun rr ww => (rr = some (.int (nI 1)) ∧ ww = [(e0, .inr (4, [.ref e1, .ref e2, .int (nI em), .ref e3, .ref e4, .ref e5, .ref e6])), (e3, .inl (T 0, 3, .inl ec)), (e4, .inl (T 0, 3, .inl ed)), (a0, .inr (5, [.int (nI an), .int am, .int al, .int ao, .int au, .ref a1, .ref a2, .ref a3, .ref a4, .ref a5, .ref a6, .ref a7, .ref a8, .ref a9, .ref a10])), (a4, .inl (T 0, 10, .inl af4)), (a5, .inl (T 0, 10, .inl af5)), (a6, .inl (T 0, 10, .inl af6))]) ∨ (rr = some (.int (nI 0)) ∧ ww = [(e0, .inr (4, [.ref e1, .ref e2, .int (nI em), .ref e3, .ref e4, .ref e5, .ref e6])), (e3, .inl (T 0, 3, .inl ec)), (e4, .inl (T 0, 3, .inl ed)), (a0, .inr (5, [.int (nI an), .int am, .int al, .int ao, .int au, .ref a1, .ref a2, .ref a3, .ref a4, .ref a5, .ref a6, .ref a7, .ref a8, .ref a9, .ref a10])), (a4, .inl (T 0, 10, .inl af4)), (a5, .inl (T 0, 10, .inl af5)), (a6, .inl (T 0, 10, .inl af6))])
set_option maxHeartbeats 4000000 in
set_option maxRecDepth 100000 in
theorem e_canStrike (l : Launch) (D : va_G) (T : Nat → ClassId) (e0 : Nat) (a0 : Nat) (j : Nat) (e1 : Nat) (e2 : Nat) (em : Nat) (e3 : Nat) (e4 : Nat) (e5 : Nat) (e6 : Nat) (ec : Nat → Int32) (ed : Nat → Int32) (an : Nat) (am : Int32) (al : Int32) (ao : Int32) (au : Int32) (a1 : Nat) (a2 : Nat) (a3 : Nat) (a4 : Nat) (a5 : Nat) (a6 : Nat) (a7 : Nat) (a8 : Nat) (a9 : Nat) (a10 : Nat) (af4 : Nat → Int32) (af5 : Nat → Int32) (af6 : Nat → Int32) (h_j : j < 3) : Ct l yX4_canStrike cX4_canStrike 3 (some .boolean) 1 0 0 D T [.ref e0, .ref a0, .int (nI j)] [(e0, .inr (4, [.ref e1, .ref e2, .int (nI em), .ref e3, .ref e4, .ref e5, .ref e6])), (e3, .inl (T 0, 3, .inl ec)), (e4, .inl (T 0, 3, .inl ed)), (a0, .inr (5, [.int (nI an), .int am, .int al, .int ao, .int au, .ref a1, .ref a2, .ref a3, .ref a4, .ref a5, .ref a6, .ref a7, .ref a8, .ref a9, .ref a10])), (a4, .inl (T 0, 10, .inl af4)), (a5, .inl (T 0, 10, .inl af5)), (a6, .inl (T 0, 10, .inl af6))] (q_e_canStrike T e0 a0 j e1 e2 em e3 e4 e5 e6 ec ed an am al ao au a1 a2 a3 a4 a5 a6 a7 a8 a9 a10 af4 af5 af6) := by
  refine Ct.of (cc := cX4_canStrike) (maxL := 3) (ret := (some .boolean)) (by decide) (Nat.le_of_ble_eq_true rfl) ?_
  intro p e s m args below meth c A ls hC hnm V hl
  obtain ⟨hx, hb, hr, hml, hown, hts, hlocks⟩ := id hC
  generalize hH : s.heap = H at V ⊢
  clear hH
  have hl : lv_has ls 3 [(0, .ref e0), (1, .ref a0), (2, .int (nI j))] := hl
  generalize hlo : ([] : List Loc) = locs at V ⊢
  clear hlo
  refine lv_aload_n hx hb dX4_canStrike_0 rfl (lv_at hl 0 rfl) ?_
  refine g_get hC V (ci := 4) uwX4 0 rfl rfl 4 (by decide) w_717 rfl rfl dX4_canStrike_1 ?_
  refine lv_iload_n hx hb dX4_canStrike_4 rfl (lv_at hl 2 rfl) ?_
  refine g_iald hC V 2 rfl (vp_in_nI (by omega) (by omega)) (v := (ed j)) (congrArg _ (nI_clamp (by omega))) dX4_canStrike_5 ?_
  refine lv_aload_n hx hb dX4_canStrike_6 rfl (lv_at hl 1 rfl) ?_
  refine g_get hC V (ci := 5) uwX5 3 rfl rfl 10 (by decide) w_75 rfl rfl dX4_canStrike_7 ?_
  refine lv_iload_n hx hb dX4_canStrike_10 rfl (lv_at hl 2 rfl) ?_
  refine g_iald hC V 6 rfl (vp_in_nI (by omega) (by omega)) (v := (af6 j)) (congrArg _ (nI_clamp (by omega))) dX4_canStrike_11 ?_
  refine lv_icmp_ge (tgt := 33) hx hb dX4_canStrike_12 (by decide) (fun c_1 => ?_) (fun c_1 => ?_)
  · skip
    refine lv_iconst (v := (nI 0)) hx hb dX4_canStrike_33 (by decide +kernel) ?_
    exact g_zret (Qr := (q_e_canStrike T e0 a0 j e1 e2 em e3 e4 e5 e6 ec ed an am al ao au a1 a2 a3 a4 a5 a6 a7 a8 a9 a10 af4 af5 af6)) hC V ⟨(Nat.le_of_ble_eq_true rfl), (Nat.le_of_ble_eq_true rfl)⟩ (by first | decide +kernel | exact rfl) (.inr ⟨rfl, rfl⟩) dX4_canStrike_34
  · skip
    refine lv_aload_n hx hb dX4_canStrike_15 rfl (lv_at hl 1 rfl) ?_
    refine lv_iload_n hx hb dX4_canStrike_16 rfl (lv_at hl 2 rfl) ?_
    refine lv_aload_n hx hb dX4_canStrike_17 rfl (lv_at hl 0 rfl) ?_
    refine g_get hC V (ci := 4) uwX4 0 rfl rfl 3 (by decide) w_716 rfl rfl dX4_canStrike_18 ?_
    refine lv_iload_n hx hb dX4_canStrike_21 rfl (lv_at hl 2 rfl) ?_
    refine g_iald hC V 1 rfl (vp_in_nI (by omega) (by omega)) (v := (ec j)) (congrArg _ (nI_clamp (by omega))) dX4_canStrike_22 ?_
    refine g_callVU (nA := 2) hC V hl.1 (s_isWorkableAt l D T a0 j (ec j) an am al ao au a1 a2 a3 a4 a5 a6 a7 a8 a9 a10 af4 af5 (by first | assumption | omega)) w_771 w_479 w_480 w_3 w_481 (by decide +kernel) rfl ⟨(Nat.le_of_ble_eq_true rfl), (Nat.le_of_ble_eq_true rfl)⟩ 3 (ci := 5) rfl rfl [3, 4, 5] rfl rfl (Nat.le_of_ble_eq_true rfl) dX4_canStrike_23 ⟨(Nat.le_of_ble_eq_true rfl), (Nat.le_of_ble_eq_true rfl)⟩ rfl (fun r w1 H locs hQ V => ?_)
    rcases hQ with ⟨rfl, rfl, f_2, f_3⟩ | ⟨rfl, rfl, f_4⟩
    · have V : gW D T A s [(e0, .inr (4, [.ref e1, .ref e2, .int (nI em), .ref e3, .ref e4, .ref e5, .ref e6])), (e3, .inl (T 0, 3, .inl ec)), (e4, .inl (T 0, 3, .inl ed)), (a0, .inr (5, [.int (nI an), .int am, .int al, .int ao, .int au, .ref a1, .ref a2, .ref a3, .ref a4, .ref a5, .ref a6, .ref a7, .ref a8, .ref a9, .ref a10])), (a4, .inl (T 0, 10, .inl af4)), (a5, .inl (T 0, 10, .inl af5)), (a6, .inl (T 0, 10, .inl af6))] H locs := V _ [3, 0, 0] rfl rfl rfl (by decide +kernel) rfl
      show W p l e _ s m args below meth c H locs _ _ _ (F0 m 26 ls [.int (nI 1)])
      refine lv_if_eq (tgt := 33) hx hb dX4_canStrike_26 (by decide) (fun c => absurd (show (nI 1) = 0 from c) (by decide +kernel)) (fun _ => ?_)
      refine lv_iconst (v := (nI 1)) hx hb dX4_canStrike_29 (by decide +kernel) ?_
      refine lv_goto (tgt := 34) hx hb dX4_canStrike_30 (by decide) ?_
      exact g_zret (Qr := (q_e_canStrike T e0 a0 j e1 e2 em e3 e4 e5 e6 ec ed an am al ao au a1 a2 a3 a4 a5 a6 a7 a8 a9 a10 af4 af5 af6)) hC V ⟨(Nat.le_of_ble_eq_true rfl), (Nat.le_of_ble_eq_true rfl)⟩ (by first | decide +kernel | exact rfl) (.inl ⟨rfl, rfl⟩) dX4_canStrike_34
    · have V : gW D T A s [(e0, .inr (4, [.ref e1, .ref e2, .int (nI em), .ref e3, .ref e4, .ref e5, .ref e6])), (e3, .inl (T 0, 3, .inl ec)), (e4, .inl (T 0, 3, .inl ed)), (a0, .inr (5, [.int (nI an), .int am, .int al, .int ao, .int au, .ref a1, .ref a2, .ref a3, .ref a4, .ref a5, .ref a6, .ref a7, .ref a8, .ref a9, .ref a10])), (a4, .inl (T 0, 10, .inl af4)), (a5, .inl (T 0, 10, .inl af5)), (a6, .inl (T 0, 10, .inl af6))] H locs := V _ [3, 0, 0] rfl rfl rfl (by decide +kernel) rfl
      show W p l e _ s m args below meth c H locs _ _ _ (F0 m 26 ls [.int (nI 0)])
      refine lv_if_eq (tgt := 33) hx hb dX4_canStrike_26 (by decide) (fun _ => ?_) (fun c => absurd (show (nI 0) = 0 by decide +kernel) c)
      refine lv_iconst (v := (nI 0)) hx hb dX4_canStrike_33 (by decide +kernel) ?_
      exact g_zret (Qr := (q_e_canStrike T e0 a0 j e1 e2 em e3 e4 e5 e6 ec ed an am al ao au a1 a2 a3 a4 a5 a6 a7 a8 a9 a10 af4 af5 af6)) hC V ⟨(Nat.le_of_ble_eq_true rfl), (Nat.le_of_ble_eq_true rfl)⟩ (by first | decide +kernel | exact rfl) (.inr ⟨rfl, rfl⟩) dX4_canStrike_34

def q_e_endsNext (T : Nat → ClassId) (e0 : Nat) (a0 : Nat) (v : Int64) (e1 : Nat) (e2 : Nat) (em : Nat) (e3 : Nat) (e4 : Nat) (e5 : Nat) (e6 : Nat) (ec : Nat → Int32) (ed : Nat → Int32) (an : Nat) (am : Int32) (al : Int32) (ao : Int32) (au : Int32) (a1 : Nat) (a2 : Nat) (a3 : Nat) (a4 : Nat) (a5 : Nat) (a6 : Nat) (a7 : Nat) (a8 : Nat) (a9 : Nat) (a10 : Nat) (af4 : Nat → Int32) (af5 : Nat → Int32) (af6 : Nat → Int32) : Option Value → va_W → Prop := fun rr ww => (∃ (gc : Nat → Int32) (gd : Nat → Int32), rr = some (.int (nI 1)) ∧ ww = [(e0, .inr (4, [.ref e1, .ref e2, .int (nI em), .ref e3, .ref e4, .ref e5, .ref e6])), (e3, .inl (T 0, 3, .inl gc)), (e4, .inl (T 0, 3, .inl gd)), (a0, .inr (5, [.int (nI an), .int am, .int al, .int ao, .int au, .ref a1, .ref a2, .ref a3, .ref a4, .ref a5, .ref a6, .ref a7, .ref a8, .ref a9, .ref a10])), (a4, .inl (T 0, 10, .inl af4)), (a5, .inl (T 0, 10, .inl af5)), (a6, .inl (T 0, 10, .inl af6))]) ∨ (∃ (gc : Nat → Int32) (gd : Nat → Int32), rr = some (.int (nI 0)) ∧ ww = [(e0, .inr (4, [.ref e1, .ref e2, .int (nI em), .ref e3, .ref e4, .ref e5, .ref e6])), (e3, .inl (T 0, 3, .inl gc)), (e4, .inl (T 0, 3, .inl gd)), (a0, .inr (5, [.int (nI an), .int am, .int al, .int ao, .int au, .ref a1, .ref a2, .ref a3, .ref a4, .ref a5, .ref a6, .ref a7, .ref a8, .ref a9, .ref a10])), (a4, .inl (T 0, 10, .inl af4)), (a5, .inl (T 0, 10, .inl af5)), (a6, .inl (T 0, 10, .inl af6))])
set_option maxHeartbeats 4000000 in
set_option maxRecDepth 100000 in
theorem e_endsNext (l : Launch) (D : va_G) (T : Nat → ClassId) (e0 : Nat) (a0 : Nat) (v : Int64) (e1 : Nat) (e2 : Nat) (em : Nat) (e3 : Nat) (e4 : Nat) (e5 : Nat) (e6 : Nat) (ec : Nat → Int32) (ed : Nat → Int32) (an : Nat) (am : Int32) (al : Int32) (ao : Int32) (au : Int32) (a1 : Nat) (a2 : Nat) (a3 : Nat) (a4 : Nat) (a5 : Nat) (a6 : Nat) (a7 : Nat) (a8 : Nat) (a9 : Nat) (a10 : Nat) (af4 : Nat → Int32) (af5 : Nat → Int32) (af6 : Nat → Int32) (h_n : an ≤ 3) : Ct l yX4_endsNext cX4_endsNext 6 (some .boolean) 2 0 0 D T [.ref e0, .ref a0, .long v] [(e0, .inr (4, [.ref e1, .ref e2, .int (nI em), .ref e3, .ref e4, .ref e5, .ref e6])), (e3, .inl (T 0, 3, .inl ec)), (e4, .inl (T 0, 3, .inl ed)), (a0, .inr (5, [.int (nI an), .int am, .int al, .int ao, .int au, .ref a1, .ref a2, .ref a3, .ref a4, .ref a5, .ref a6, .ref a7, .ref a8, .ref a9, .ref a10])), (a4, .inl (T 0, 10, .inl af4)), (a5, .inl (T 0, 10, .inl af5)), (a6, .inl (T 0, 10, .inl af6))] (q_e_endsNext T e0 a0 v e1 e2 em e3 e4 e5 e6 ec ed an am al ao au a1 a2 a3 a4 a5 a6 a7 a8 a9 a10 af4 af5 af6) := by
  refine Ct.of (cc := cX4_endsNext) (maxL := 6) (ret := (some .boolean)) (by decide) (Nat.le_of_ble_eq_true rfl) ?_
  intro p e s m args below meth c A ls hC hnm V hl
  obtain ⟨hx, hb, hr, hml, hown, hts, hlocks⟩ := id hC
  generalize hH : s.heap = H at V ⊢
  clear hH
  have hl : lv_has ls 6 [(0, .ref e0), (1, .ref a0), (2, .long v)] := hl
  generalize hlo : ([] : List Loc) = locs at V ⊢
  clear hlo
  refine lv_aload_n hx hb dX4_endsNext_0 rfl (lv_at hl 0 rfl) ?_
  refine lv_aload_n hx hb dX4_endsNext_1 rfl (lv_at hl 1 rfl) ?_
  refine lv_lload_n hx hb dX4_endsNext_2 rfl (lv_at hl 2 rfl) ?_
  refine g_callVU (nA := 2) hC V hl.1 (e_unpack l D T e0 a0 v e1 e2 em e3 e4 e5 e6 ec ed an am al ao au a1 a2 a3 a4 a5 a6 a7 a8 a9 a10 (by first | assumption | omega)) w_763 w_765 w_s27 w_18 w_766 (by decide +kernel) rfl ⟨(Nat.le_of_ble_eq_true rfl), (Nat.le_of_ble_eq_true rfl)⟩ 0 (ci := 4) rfl rfl [0, 1, 2, 3] rfl rfl (Nat.le_of_ble_eq_true rfl) dX4_endsNext_3 ⟨(Nat.le_of_ble_eq_true rfl), (Nat.le_of_ble_eq_true rfl)⟩ rfl (fun r w1 H locs hQ V => ?_)
  obtain ⟨gc_1, gd_2, rfl, rfl⟩ := hQ
  have V : gW D T A s [(e0, .inr (4, [.ref e1, .ref e2, .int (nI em), .ref e3, .ref e4, .ref e5, .ref e6])), (e3, .inl (T 0, 3, .inl gc_1)), (e4, .inl (T 0, 3, .inl gd_2)), (a0, .inr (5, [.int (nI an), .int am, .int al, .int ao, .int au, .ref a1, .ref a2, .ref a3, .ref a4, .ref a5, .ref a6, .ref a7, .ref a8, .ref a9, .ref a10])), (a4, .inl (T 0, 10, .inl af4)), (a5, .inl (T 0, 10, .inl af5)), (a6, .inl (T 0, 10, .inl af6))] H locs := V _ [0, 0, 0, 0] rfl rfl rfl (by decide +kernel) rfl
  show W p l e _ s m args below meth c H locs _ _ _ (F0 m 6 ls [])
  refine lv_iconst (v := (nI 0)) hx hb dX4_endsNext_6 (by decide +kernel) ?_
  refine lv_istore (lv' := [(4, .int (nI 0)), (0, .ref e0), (1, .ref a0), (2, .long v)]) hx hb dX4_endsNext_7 hl (by decide) rfl (fun ls hl => ?_)
  have L_3 : ∀ (fu : Nat) (k9 : Nat), k9 ≤ an → an - k9 < fu → ∀ (H : Heap) (locs : List Loc) (ls : Array Slot), gW D T A s [(e0, .inr (4, [.ref e1, .ref e2, .int (nI em), .ref e3, .ref e4, .ref e5, .ref e6])), (e3, .inl (T 0, 3, .inl gc_1)), (e4, .inl (T 0, 3, .inl gd_2)), (a0, .inr (5, [.int (nI an), .int am, .int al, .int ao, .int au, .ref a1, .ref a2, .ref a3, .ref a4, .ref a5, .ref a6, .ref a7, .ref a8, .ref a9, .ref a10])), (a4, .inl (T 0, 10, .inl af4)), (a5, .inl (T 0, 10, .inl af5)), (a6, .inl (T 0, 10, .inl af6))] H locs → lv_has ls 6 [(4, .int (nI k9)), (0, .ref e0), (1, .ref a0), (2, .long v)] → W p l e (rmD 2 0 0) s m args below meth c H locs 0 0 (MQ below (gQ D A (q_e_endsNext T e0 a0 v e1 e2 em e3 e4 e5 e6 ec ed an am al ao au a1 a2 a3 a4 a5 a6 a7 a8 a9 a10 af4 af5 af6)) args s 0 0 A) (F0 m 9 ls []) := by
    intro fu_9
    induction fu_9 with
    | zero => intro k9 hk9 hmu; exact absurd hmu (Nat.not_lt_zero _)
    | succ fu_9 ih_9 =>
      intro k9 hk9 hmu_9 H locs ls V hl
      refine lv_iload hx hb dX4_endsNext_9 (lv_at hl 0 rfl) ?_
      refine lv_aload_n hx hb dX4_endsNext_11 rfl (lv_at hl 2 rfl) ?_
      refine g_get hC V (ci := 5) uwX5 3 rfl rfl 0 (by decide) w_34 rfl rfl dX4_endsNext_12 ?_
      refine lv_icmp_ge (tgt := 84) hx hb dX4_endsNext_15 (by decide) (fun c_4 => ?_) (fun c_4 => ?_)
      · skip
        have c_4 := b_le (by omega) (by omega) c_4
        refine lv_iconst (v := (nI 1)) hx hb dX4_endsNext_84 (by decide +kernel) ?_
        exact g_zret (Qr := (q_e_endsNext T e0 a0 v e1 e2 em e3 e4 e5 e6 ec ed an am al ao au a1 a2 a3 a4 a5 a6 a7 a8 a9 a10 af4 af5 af6)) hC V ⟨(Nat.le_of_ble_eq_true rfl), (Nat.le_of_ble_eq_true rfl)⟩ (by first | decide +kernel | exact rfl) (.inl ⟨gc_1, gd_2, rfl, rfl⟩) dX4_endsNext_85
      · skip
        have c_4 := b_nle (by omega) (by omega) c_4
        refine lv_aload_n hx hb dX4_endsNext_18 rfl (lv_at hl 1 rfl) ?_
        refine g_get hC V (ci := 4) uwX4 0 rfl rfl 4 (by decide) w_717 rfl rfl dX4_endsNext_19 ?_
        refine lv_iload hx hb dX4_endsNext_22 (lv_at hl 0 rfl) ?_
        refine g_iald hC V 2 rfl (vp_in_nI (by omega) (by omega)) (v := (gd_2 k9)) (congrArg _ (nI_clamp (by omega))) dX4_endsNext_24 ?_
        refine lv_aload_n hx hb dX4_endsNext_25 rfl (lv_at hl 2 rfl) ?_
        refine g_get hC V (ci := 5) uwX5 3 rfl rfl 10 (by decide) w_75 rfl rfl dX4_endsNext_26 ?_
        refine lv_iload hx hb dX4_endsNext_29 (lv_at hl 0 rfl) ?_
        refine g_iald hC V 6 rfl (vp_in_nI (by omega) (by omega)) (v := (af6 k9)) (congrArg _ (nI_clamp (by omega))) dX4_endsNext_31 ?_
        refine lv_icmp_lt (tgt := 39) hx hb dX4_endsNext_32 (by decide) (fun c_5 => ?_) (fun c_5 => ?_)
        · skip
          refine lv_iconst (v := (nI 0)) hx hb dX4_endsNext_39 (by decide +kernel) ?_
          refine lv_istore (lv' := [(5, .int (nI 0)), (4, .int (nI k9)), (0, .ref e0), (1, .ref a0), (2, .long v)]) hx hb dX4_endsNext_40 hl (by decide) rfl (fun ls hl => ?_)
          refine lv_iload hx hb dX4_endsNext_42 (lv_at hl 0 rfl) ?_
          refine lv_if_ne (tgt := 78) hx hb dX4_endsNext_44 (by decide) (fun c => absurd (show (nI 0) = 0 by decide +kernel) c) (fun _ => ?_)
          refine lv_aload_n hx hb dX4_endsNext_47 rfl (lv_at hl 2 rfl) ?_
          refine g_get hC V (ci := 4) uwX4 0 rfl rfl 4 (by decide) w_717 rfl rfl dX4_endsNext_48 ?_
          refine lv_iload hx hb dX4_endsNext_51 (lv_at hl 1 rfl) ?_
          refine g_iald hC V 2 rfl (vp_in_nI (by omega) (by omega)) (v := (gd_2 k9)) (congrArg _ (nI_clamp (by omega))) dX4_endsNext_53 ?_
          refine lv_iconst (v := (nI 1)) hx hb dX4_endsNext_54 (by decide +kernel) ?_
          refine lv_iadd hx hb dX4_endsNext_55 ?_
          refine lv_aload_n hx hb dX4_endsNext_56 rfl (lv_at hl 3 rfl) ?_
          refine g_get hC V (ci := 5) uwX5 3 rfl rfl 10 (by decide) w_75 rfl rfl dX4_endsNext_57 ?_
          refine lv_iload hx hb dX4_endsNext_60 (lv_at hl 1 rfl) ?_
          refine g_iald hC V 6 rfl (vp_in_nI (by omega) (by omega)) (v := (af6 k9)) (congrArg _ (nI_clamp (by omega))) dX4_endsNext_62 ?_
          refine lv_icmp_lt (tgt := 76) hx hb dX4_endsNext_63 (by decide) (fun c_6 => ?_) (fun c_6 => ?_)
          · skip
            refine lv_iconst (v := (nI 0)) hx hb dX4_endsNext_76 (by decide +kernel) ?_
            exact g_zret (Qr := (q_e_endsNext T e0 a0 v e1 e2 em e3 e4 e5 e6 ec ed an am al ao au a1 a2 a3 a4 a5 a6 a7 a8 a9 a10 af4 af5 af6)) hC V ⟨(Nat.le_of_ble_eq_true rfl), (Nat.le_of_ble_eq_true rfl)⟩ (by first | decide +kernel | exact rfl) (.inr ⟨gc_1, gd_2, rfl, rfl⟩) dX4_endsNext_77
          · skip
            refine lv_aload_n hx hb dX4_endsNext_66 rfl (lv_at hl 2 rfl) ?_
            refine lv_aload_n hx hb dX4_endsNext_67 rfl (lv_at hl 3 rfl) ?_
            refine lv_iload hx hb dX4_endsNext_68 (lv_at hl 1 rfl) ?_
            refine g_callV (wr := []) (nA := 2) hC V hl.1 (e_canStrike l D T e0 a0 k9 e1 e2 em e3 e4 e5 e6 gc_1 gd_2 an am al ao au a1 a2 a3 a4 a5 a6 a7 a8 a9 a10 af4 af5 af6 (by first | assumption | omega)) w_767 w_769 w_s28 w_18 w_770 (by decide +kernel) rfl ⟨(Nat.le_of_ble_eq_true rfl), (Nat.le_of_ble_eq_true rfl)⟩ 0 (ci := 4) rfl rfl [0, 1, 2, 3, 4, 5, 6] [] rfl rfl rfl rfl (by decide) (Nat.le_of_ble_eq_true rfl) dX4_endsNext_70 ⟨(Nat.le_of_ble_eq_true rfl), (Nat.le_of_ble_eq_true rfl)⟩ rfl (fun r w1 H locs hQ V => ?_)
            rcases hQ with ⟨rfl, rfl⟩ | ⟨rfl, rfl⟩
            · have V : gW D T A s [(e0, .inr (4, [.ref e1, .ref e2, .int (nI em), .ref e3, .ref e4, .ref e5, .ref e6])), (e3, .inl (T 0, 3, .inl gc_1)), (e4, .inl (T 0, 3, .inl gd_2)), (a0, .inr (5, [.int (nI an), .int am, .int al, .int ao, .int au, .ref a1, .ref a2, .ref a3, .ref a4, .ref a5, .ref a6, .ref a7, .ref a8, .ref a9, .ref a10])), (a4, .inl (T 0, 10, .inl af4)), (a5, .inl (T 0, 10, .inl af5)), (a6, .inl (T 0, 10, .inl af6))] H locs := V
              show W p l e _ s m args below meth c H locs _ _ _ (F0 m 73 ls [.int (nI 1)])
              refine lv_if_ne (tgt := 78) hx hb dX4_endsNext_73 (by decide) (fun _ => ?_) (fun c => absurd (show (nI 1) = 0 from c) (by decide +kernel))
              refine lv_iinc (v := (nI (k9 + 1))) (lv' := [(4, .int (nI (k9 + 1))), (5, .int (nI 0)), (0, .ref e0), (1, .ref a0), (2, .long v)]) hx hb dX4_endsNext_78 hl (k := 1) rfl (nI_1 _) (by decide) rfl (fun ls hl => ?_)
              refine lv_goto (tgt := 9) hx hb dX4_endsNext_81 (by decide) ?_
              exact ih_9 (k9 + 1) (by omega) (by omega) _ _ _ V (lv_sub hl [0, 2, 3, 4] rfl)
            · have V : gW D T A s [(e0, .inr (4, [.ref e1, .ref e2, .int (nI em), .ref e3, .ref e4, .ref e5, .ref e6])), (e3, .inl (T 0, 3, .inl gc_1)), (e4, .inl (T 0, 3, .inl gd_2)), (a0, .inr (5, [.int (nI an), .int am, .int al, .int ao, .int au, .ref a1, .ref a2, .ref a3, .ref a4, .ref a5, .ref a6, .ref a7, .ref a8, .ref a9, .ref a10])), (a4, .inl (T 0, 10, .inl af4)), (a5, .inl (T 0, 10, .inl af5)), (a6, .inl (T 0, 10, .inl af6))] H locs := V
              show W p l e _ s m args below meth c H locs _ _ _ (F0 m 73 ls [.int (nI 0)])
              refine lv_if_ne (tgt := 78) hx hb dX4_endsNext_73 (by decide) (fun c => absurd (show (nI 0) = 0 by decide +kernel) c) (fun _ => ?_)
              refine lv_iconst (v := (nI 0)) hx hb dX4_endsNext_76 (by decide +kernel) ?_
              exact g_zret (Qr := (q_e_endsNext T e0 a0 v e1 e2 em e3 e4 e5 e6 ec ed an am al ao au a1 a2 a3 a4 a5 a6 a7 a8 a9 a10 af4 af5 af6)) hC V ⟨(Nat.le_of_ble_eq_true rfl), (Nat.le_of_ble_eq_true rfl)⟩ (by first | decide +kernel | exact rfl) (.inr ⟨gc_1, gd_2, rfl, rfl⟩) dX4_endsNext_77
        · skip
          refine lv_iconst (v := (nI 1)) hx hb dX4_endsNext_35 (by decide +kernel) ?_
          refine lv_goto (tgt := 40) hx hb dX4_endsNext_36 (by decide) ?_
          refine lv_istore (lv' := [(5, .int (nI 1)), (4, .int (nI k9)), (0, .ref e0), (1, .ref a0), (2, .long v)]) hx hb dX4_endsNext_40 hl (by decide) rfl (fun ls hl => ?_)
          refine lv_iload hx hb dX4_endsNext_42 (lv_at hl 0 rfl) ?_
          refine lv_if_ne (tgt := 78) hx hb dX4_endsNext_44 (by decide) (fun _ => ?_) (fun c => absurd (show (nI 1) = 0 from c) (by decide +kernel))
          refine lv_iinc (v := (nI (k9 + 1))) (lv' := [(4, .int (nI (k9 + 1))), (5, .int (nI 1)), (0, .ref e0), (1, .ref a0), (2, .long v)]) hx hb dX4_endsNext_78 hl (k := 1) rfl (nI_1 _) (by decide) rfl (fun ls hl => ?_)
          refine lv_goto (tgt := 9) hx hb dX4_endsNext_81 (by decide) ?_
          exact ih_9 (k9 + 1) (by omega) (by omega) _ _ _ V (lv_sub hl [0, 2, 3, 4] rfl)
  exact L_3 _ 0 (by omega) (Nat.lt_succ_self _) _ _ _ V (lv_sub hl [0, 1, 2, 3] rfl)

def q_e_behind (T : Nat → ClassId) (e0 : Nat) (a0 : Nat) (sk : Int32) (e1 : Nat) (e2 : Nat) (em : Nat) (e3 : Nat) (e4 : Nat) (e5 : Nat) (e6 : Nat) (ed : Nat → Int32) (ee : Nat → Int32) (an : Nat) (am : Int32) (al : Int32) (ao : Int32) (au : Int32) (a1 : Nat) (a2 : Nat) (a3 : Nat) (a4 : Nat) (a5 : Nat) (a6 : Nat) (a7 : Nat) (a8 : Nat) (a9 : Nat) (a10 : Nat) (af5 : Nat → Int32) (af6 : Nat → Int32) : Option Value → va_W → Prop := fun rr ww => (∃ (z : Int64), rr = some (.long z) ∧ ww = [(e0, .inr (4, [.ref e1, .ref e2, .int (nI em), .ref e3, .ref e4, .ref e5, .ref e6])), (e4, .inl (T 0, 3, .inl ed)), (e5, .inl (T 0, 3, .inl ee)), (a0, .inr (5, [.int (nI an), .int am, .int al, .int ao, .int au, .ref a1, .ref a2, .ref a3, .ref a4, .ref a5, .ref a6, .ref a7, .ref a8, .ref a9, .ref a10])), (a5, .inl (T 0, 10, .inl af5)), (a6, .inl (T 0, 10, .inl af6))])
set_option maxHeartbeats 4000000 in
set_option maxRecDepth 100000 in
theorem e_behind (l : Launch) (D : va_G) (T : Nat → ClassId) (e0 : Nat) (a0 : Nat) (sk : Int32) (e1 : Nat) (e2 : Nat) (em : Nat) (e3 : Nat) (e4 : Nat) (e5 : Nat) (e6 : Nat) (ed : Nat → Int32) (ee : Nat → Int32) (an : Nat) (am : Int32) (al : Int32) (ao : Int32) (au : Int32) (a1 : Nat) (a2 : Nat) (a3 : Nat) (a4 : Nat) (a5 : Nat) (a6 : Nat) (a7 : Nat) (a8 : Nat) (a9 : Nat) (a10 : Nat) (af5 : Nat → Int32) (af6 : Nat → Int32) (h_n : an ≤ 3) : Ct l yX4_behindStrokes cX4_behindStrokes 7 (some .long) 1 0 0 D T [.ref e0, .ref a0, .int sk] [(e0, .inr (4, [.ref e1, .ref e2, .int (nI em), .ref e3, .ref e4, .ref e5, .ref e6])), (e4, .inl (T 0, 3, .inl ed)), (e5, .inl (T 0, 3, .inl ee)), (a0, .inr (5, [.int (nI an), .int am, .int al, .int ao, .int au, .ref a1, .ref a2, .ref a3, .ref a4, .ref a5, .ref a6, .ref a7, .ref a8, .ref a9, .ref a10])), (a5, .inl (T 0, 10, .inl af5)), (a6, .inl (T 0, 10, .inl af6))] (q_e_behind T e0 a0 sk e1 e2 em e3 e4 e5 e6 ed ee an am al ao au a1 a2 a3 a4 a5 a6 a7 a8 a9 a10 af5 af6) := by
  refine Ct.of (cc := cX4_behindStrokes) (maxL := 7) (ret := (some .long)) (by decide) (Nat.le_of_ble_eq_true rfl) ?_
  intro p e s m args below meth c A ls hC hnm V hl
  obtain ⟨hx, hb, hr, hml, hown, hts, hlocks⟩ := id hC
  generalize hH : s.heap = H at V ⊢
  clear hH
  have hl : lv_has ls 7 [(0, .ref e0), (1, .ref a0), (2, .int sk)] := hl
  generalize hlo : ([] : List Loc) = locs at V ⊢
  clear hlo
  refine lv_lconst (v := (nI 0).toInt64) hx hb dX4_behindStrokes_0 (by decide +kernel) ?_
  refine lv_lstore_n (lv' := [(3, .long (nI 0).toInt64), (0, .ref e0), (1, .ref a0), (2, .int sk)]) hx hb dX4_behindStrokes_1 rfl hl (by decide) rfl (fun ls hl => ?_)
  refine lv_iconst (v := (nI 0)) hx hb dX4_behindStrokes_2 (by decide +kernel) ?_
  refine lv_istore (lv' := [(5, .int (nI 0)), (3, .long (nI 0).toInt64), (0, .ref e0), (1, .ref a0), (2, .int sk)]) hx hb dX4_behindStrokes_3 hl (by decide) rfl (fun ls hl => ?_)
  have L_1 : ∀ (fu : Nat) (k5 : Nat) (x5_3 : Int64), k5 ≤ an → an - k5 < fu → ∀ (H : Heap) (locs : List Loc) (ls : Array Slot), gW D T A s [(e0, .inr (4, [.ref e1, .ref e2, .int (nI em), .ref e3, .ref e4, .ref e5, .ref e6])), (e4, .inl (T 0, 3, .inl ed)), (e5, .inl (T 0, 3, .inl ee)), (a0, .inr (5, [.int (nI an), .int am, .int al, .int ao, .int au, .ref a1, .ref a2, .ref a3, .ref a4, .ref a5, .ref a6, .ref a7, .ref a8, .ref a9, .ref a10])), (a5, .inl (T 0, 10, .inl af5)), (a6, .inl (T 0, 10, .inl af6))] H locs → lv_has ls 7 [(5, .int (nI k5)), (3, .long x5_3), (0, .ref e0), (1, .ref a0), (2, .int sk)] → W p l e (rmD 1 0 0) s m args below meth c H locs 0 0 (MQ below (gQ D A (q_e_behind T e0 a0 sk e1 e2 em e3 e4 e5 e6 ed ee an am al ao au a1 a2 a3 a4 a5 a6 a7 a8 a9 a10 af5 af6)) args s 0 0 A) (F0 m 5 ls []) := by
    intro fu_5
    induction fu_5 with
    | zero => intro k5 x5_3 hk5 hmu; exact absurd hmu (Nat.not_lt_zero _)
    | succ fu_5 ih_5 =>
      intro k5 x5_3 hk5 hmu_5 H locs ls V hl
      refine lv_iload hx hb dX4_behindStrokes_5 (lv_at hl 0 rfl) ?_
      refine lv_aload_n hx hb dX4_behindStrokes_7 rfl (lv_at hl 3 rfl) ?_
      refine g_get hC V (ci := 5) uwX5 3 rfl rfl 0 (by decide) w_34 rfl rfl dX4_behindStrokes_8 ?_
      refine lv_icmp_ge (tgt := 109) hx hb dX4_behindStrokes_11 (by decide) (fun c_2 => ?_) (fun c_2 => ?_)
      · skip
        have c_2 := b_le (by omega) (by omega) c_2
        refine lv_lload_n hx hb dX4_behindStrokes_109 rfl (lv_at hl 1 rfl) ?_
        exact g_lret (Qr := (q_e_behind T e0 a0 sk e1 e2 em e3 e4 e5 e6 ed ee an am al ao au a1 a2 a3 a4 a5 a6 a7 a8 a9 a10 af5 af6)) hC V ⟨(Nat.le_of_ble_eq_true rfl), (Nat.le_of_ble_eq_true rfl)⟩ ⟨x5_3, rfl, rfl⟩ dX4_behindStrokes_110
      · skip
        have c_2 := b_nle (by omega) (by omega) c_2
        refine lv_iload_n hx hb dX4_behindStrokes_14 rfl (lv_at hl 4 rfl) ?_
        refine lv_iload hx hb dX4_behindStrokes_15 (lv_at hl 0 rfl) ?_
        refine g_callSNU (nA := 2) (host := RX7) hC V hl.1 (c_isIn l D T sk (nI k5)) w_472 (List.mem_of_getElem? (i := 12) rfl) w_2 w_471 (by decide +kernel) rfl ⟨(Nat.le_of_ble_eq_true rfl), (Nat.le_of_ble_eq_true rfl)⟩ [] rfl rfl (Nat.le_of_ble_eq_true rfl) dX4_behindStrokes_17 ⟨(Nat.le_of_ble_eq_true rfl), (Nat.le_of_ble_eq_true rfl)⟩ rfl (fun r w1 H locs hQ V => ?_)
        rcases hQ with ⟨rfl, rfl⟩ | ⟨rfl, rfl⟩
        · have V : gW D T A s [(e0, .inr (4, [.ref e1, .ref e2, .int (nI em), .ref e3, .ref e4, .ref e5, .ref e6])), (e4, .inl (T 0, 3, .inl ed)), (e5, .inl (T 0, 3, .inl ee)), (a0, .inr (5, [.int (nI an), .int am, .int al, .int ao, .int au, .ref a1, .ref a2, .ref a3, .ref a4, .ref a5, .ref a6, .ref a7, .ref a8, .ref a9, .ref a10])), (a5, .inl (T 0, 10, .inl af5)), (a6, .inl (T 0, 10, .inl af6))] H locs := V _ [] rfl rfl rfl (by decide +kernel) rfl
          show W p l e _ s m args below meth c H locs _ _ _ (F0 m 20 ls [.int (nI 1)])
          refine lv_if_eq (tgt := 35) hx hb dX4_behindStrokes_20 (by decide) (fun c => absurd (show (nI 1) = 0 from c) (by decide +kernel)) (fun _ => ?_)
          refine lv_aload_n hx hb dX4_behindStrokes_23 rfl (lv_at hl 2 rfl) ?_
          refine g_get hC V (ci := 4) uwX4 0 rfl rfl 4 (by decide) w_717 rfl rfl dX4_behindStrokes_24 ?_
          refine lv_iload hx hb dX4_behindStrokes_27 (lv_at hl 0 rfl) ?_
          refine g_iald hC V 1 rfl (vp_in_nI (by omega) (by omega)) (v := (ed k5)) (congrArg _ (nI_clamp (by omega))) dX4_behindStrokes_29 ?_
          refine lv_iconst (v := (nI 1)) hx hb dX4_behindStrokes_30 (by decide +kernel) ?_
          refine lv_iadd hx hb dX4_behindStrokes_31 ?_
          refine lv_goto (tgt := 42) hx hb dX4_behindStrokes_32 (by decide) ?_
          refine lv_istore (lv' := [(6, .int ((ed k5) + (nI 1))), (5, .int (nI k5)), (3, .long x5_3), (0, .ref e0), (1, .ref a0), (2, .int sk)]) hx hb dX4_behindStrokes_42 hl (by decide) rfl (fun ls hl => ?_)
          refine lv_iload hx hb dX4_behindStrokes_44 (lv_at hl 0 rfl) ?_
          refine lv_aload_n hx hb dX4_behindStrokes_46 rfl (lv_at hl 4 rfl) ?_
          refine g_get hC V (ci := 5) uwX5 3 rfl rfl 10 (by decide) w_75 rfl rfl dX4_behindStrokes_47 ?_
          refine lv_iload hx hb dX4_behindStrokes_50 (lv_at hl 1 rfl) ?_
          refine g_iald hC V 5 rfl (vp_in_nI (by omega) (by omega)) (v := (af6 k5)) (congrArg _ (nI_clamp (by omega))) dX4_behindStrokes_52 ?_
          refine lv_icmp_ge (tgt := 86) hx hb dX4_behindStrokes_53 (by decide) (fun c_3 => ?_) (fun c_3 => ?_)
          · skip
            refine lv_lload_n hx hb dX4_behindStrokes_86 rfl (lv_at hl 2 rfl) ?_
            refine lv_iload hx hb dX4_behindStrokes_87 (lv_at hl 1 rfl) ?_
            refine lv_aload_n hx hb dX4_behindStrokes_89 rfl (lv_at hl 3 rfl) ?_
            refine g_get hC V (ci := 4) uwX4 0 rfl rfl 5 (by decide) w_718 rfl rfl dX4_behindStrokes_90 ?_
            refine lv_iload hx hb dX4_behindStrokes_93 (lv_at hl 1 rfl) ?_
            refine g_iald hC V 2 rfl (vp_in_nI (by omega) (by omega)) (v := (ee k5)) (congrArg _ (nI_clamp (by omega))) dX4_behindStrokes_95 ?_
            refine lv_iload hx hb dX4_behindStrokes_96 (lv_at hl 0 rfl) ?_
            refine g_callSU (nA := 3) hC V hl.1 (e_packed l D T (nI k5) (ee k5) ((ed k5) + (nI 1))) w_751 w_752 w_18 w_753 (by decide +kernel) rfl ⟨(Nat.le_of_ble_eq_true rfl), (Nat.le_of_ble_eq_true rfl)⟩ [] rfl rfl (Nat.le_of_ble_eq_true rfl) dX4_behindStrokes_98 ⟨(Nat.le_of_ble_eq_true rfl), (Nat.le_of_ble_eq_true rfl)⟩ rfl (fun r w1 H locs hQ V => ?_)
            obtain ⟨z_4, rfl, rfl⟩ := hQ
            have V : gW D T A s [(e0, .inr (4, [.ref e1, .ref e2, .int (nI em), .ref e3, .ref e4, .ref e5, .ref e6])), (e4, .inl (T 0, 3, .inl ed)), (e5, .inl (T 0, 3, .inl ee)), (a0, .inr (5, [.int (nI an), .int am, .int al, .int ao, .int au, .ref a1, .ref a2, .ref a3, .ref a4, .ref a5, .ref a6, .ref a7, .ref a8, .ref a9, .ref a10])), (a5, .inl (T 0, 10, .inl af5)), (a6, .inl (T 0, 10, .inl af6))] H locs := V _ [] rfl rfl rfl (by decide +kernel) rfl
            show W p l e _ s m args below meth c H locs _ _ _ (F0 m 101 ls [.long z_4, .long x5_3])
            refine lv_lor hx hb dX4_behindStrokes_101 ?_
            refine lv_lstore_n (lv' := [(3, .long (x5_3 ||| z_4)), (6, .int ((ed k5) + (nI 1))), (5, .int (nI k5)), (0, .ref e0), (1, .ref a0), (2, .int sk)]) hx hb dX4_behindStrokes_102 rfl hl (by decide) rfl (fun ls hl => ?_)
            refine lv_iinc (v := (nI (k5 + 1))) (lv' := [(5, .int (nI (k5 + 1))), (3, .long (x5_3 ||| z_4)), (6, .int ((ed k5) + (nI 1))), (0, .ref e0), (1, .ref a0), (2, .int sk)]) hx hb dX4_behindStrokes_103 hl (k := 2) rfl (nI_1 _) (by decide) rfl (fun ls hl => ?_)
            refine lv_goto (tgt := 5) hx hb dX4_behindStrokes_106 (by decide) ?_
            exact ih_5 (k5 + 1) (x5_3 ||| z_4) (by omega) (by omega) _ _ _ V (lv_sub hl [0, 1, 3, 4, 5] rfl)
          · skip
            refine lv_aload_n hx hb dX4_behindStrokes_56 rfl (lv_at hl 3 rfl) ?_
            refine g_get hC V (ci := 4) uwX4 0 rfl rfl 5 (by decide) w_718 rfl rfl dX4_behindStrokes_57 ?_
            refine lv_iload hx hb dX4_behindStrokes_60 (lv_at hl 1 rfl) ?_
            refine g_iald hC V 2 rfl (vp_in_nI (by omega) (by omega)) (v := (ee k5)) (congrArg _ (nI_clamp (by omega))) dX4_behindStrokes_62 ?_
            refine lv_aload_n hx hb dX4_behindStrokes_63 rfl (lv_at hl 4 rfl) ?_
            refine g_get hC V (ci := 5) uwX5 3 rfl rfl 9 (by decide) w_73 rfl rfl dX4_behindStrokes_64 ?_
            refine lv_iload hx hb dX4_behindStrokes_67 (lv_at hl 1 rfl) ?_
            refine g_iald hC V 4 rfl (vp_in_nI (by omega) (by omega)) (v := (af5 k5)) (congrArg _ (nI_clamp (by omega))) dX4_behindStrokes_69 ?_
            refine lv_icmp_le (tgt := 86) hx hb dX4_behindStrokes_70 (by decide) (fun c_5 => ?_) (fun c_5 => ?_)
            · skip
              refine lv_lload_n hx hb dX4_behindStrokes_86 rfl (lv_at hl 2 rfl) ?_
              refine lv_iload hx hb dX4_behindStrokes_87 (lv_at hl 1 rfl) ?_
              refine lv_aload_n hx hb dX4_behindStrokes_89 rfl (lv_at hl 3 rfl) ?_
              refine g_get hC V (ci := 4) uwX4 0 rfl rfl 5 (by decide) w_718 rfl rfl dX4_behindStrokes_90 ?_
              refine lv_iload hx hb dX4_behindStrokes_93 (lv_at hl 1 rfl) ?_
              refine g_iald hC V 2 rfl (vp_in_nI (by omega) (by omega)) (v := (ee k5)) (congrArg _ (nI_clamp (by omega))) dX4_behindStrokes_95 ?_
              refine lv_iload hx hb dX4_behindStrokes_96 (lv_at hl 0 rfl) ?_
              refine g_callSU (nA := 3) hC V hl.1 (e_packed l D T (nI k5) (ee k5) ((ed k5) + (nI 1))) w_751 w_752 w_18 w_753 (by decide +kernel) rfl ⟨(Nat.le_of_ble_eq_true rfl), (Nat.le_of_ble_eq_true rfl)⟩ [] rfl rfl (Nat.le_of_ble_eq_true rfl) dX4_behindStrokes_98 ⟨(Nat.le_of_ble_eq_true rfl), (Nat.le_of_ble_eq_true rfl)⟩ rfl (fun r w1 H locs hQ V => ?_)
              obtain ⟨z_6, rfl, rfl⟩ := hQ
              have V : gW D T A s [(e0, .inr (4, [.ref e1, .ref e2, .int (nI em), .ref e3, .ref e4, .ref e5, .ref e6])), (e4, .inl (T 0, 3, .inl ed)), (e5, .inl (T 0, 3, .inl ee)), (a0, .inr (5, [.int (nI an), .int am, .int al, .int ao, .int au, .ref a1, .ref a2, .ref a3, .ref a4, .ref a5, .ref a6, .ref a7, .ref a8, .ref a9, .ref a10])), (a5, .inl (T 0, 10, .inl af5)), (a6, .inl (T 0, 10, .inl af6))] H locs := V _ [] rfl rfl rfl (by decide +kernel) rfl
              show W p l e _ s m args below meth c H locs _ _ _ (F0 m 101 ls [.long z_6, .long x5_3])
              refine lv_lor hx hb dX4_behindStrokes_101 ?_
              refine lv_lstore_n (lv' := [(3, .long (x5_3 ||| z_6)), (6, .int ((ed k5) + (nI 1))), (5, .int (nI k5)), (0, .ref e0), (1, .ref a0), (2, .int sk)]) hx hb dX4_behindStrokes_102 rfl hl (by decide) rfl (fun ls hl => ?_)
              refine lv_iinc (v := (nI (k5 + 1))) (lv' := [(5, .int (nI (k5 + 1))), (3, .long (x5_3 ||| z_6)), (6, .int ((ed k5) + (nI 1))), (0, .ref e0), (1, .ref a0), (2, .int sk)]) hx hb dX4_behindStrokes_103 hl (k := 2) rfl (nI_1 _) (by decide) rfl (fun ls hl => ?_)
              refine lv_goto (tgt := 5) hx hb dX4_behindStrokes_106 (by decide) ?_
              exact ih_5 (k5 + 1) (x5_3 ||| z_6) (by omega) (by omega) _ _ _ V (lv_sub hl [0, 1, 3, 4, 5] rfl)
            · skip
              refine lv_iconst (v := (nI 0)) hx hb dX4_behindStrokes_73 (by decide +kernel) ?_
              refine lv_iload hx hb dX4_behindStrokes_74 (lv_at hl 0 rfl) ?_
              refine lv_aload_n hx hb dX4_behindStrokes_76 rfl (lv_at hl 4 rfl) ?_
              refine g_get hC V (ci := 5) uwX5 3 rfl rfl 3 (by decide) w_47 rfl rfl dX4_behindStrokes_77 ?_
              refine lv_isub hx hb dX4_behindStrokes_80 ?_
              refine va_mmax hx hb (hml.trans hl.1.symm) hown (hts _ w_782) (hts _ w_392) (hts _ w_10) (hts _ w_393) (Nat.le_of_ble_eq_true rfl) (Nat.le_of_ble_eq_true rfl) (Nat.le_of_ble_eq_true rfl) (Nat.le_of_ble_eq_true rfl) dX4_behindStrokes_81 ?_
              refine lv_topi (fun x_7 ex_7 => ?_)
              refine lv_istore (lv' := [(6, .int x_7), (5, .int (nI k5)), (3, .long x5_3), (0, .ref e0), (1, .ref a0), (2, .int sk)]) hx hb dX4_behindStrokes_84 hl (by decide) rfl (fun ls hl => ?_)
              refine lv_lload_n hx hb dX4_behindStrokes_86 rfl (lv_at hl 2 rfl) ?_
              refine lv_iload hx hb dX4_behindStrokes_87 (lv_at hl 1 rfl) ?_
              refine lv_aload_n hx hb dX4_behindStrokes_89 rfl (lv_at hl 3 rfl) ?_
              refine g_get hC V (ci := 4) uwX4 0 rfl rfl 5 (by decide) w_718 rfl rfl dX4_behindStrokes_90 ?_
              refine lv_iload hx hb dX4_behindStrokes_93 (lv_at hl 1 rfl) ?_
              refine g_iald hC V 2 rfl (vp_in_nI (by omega) (by omega)) (v := (ee k5)) (congrArg _ (nI_clamp (by omega))) dX4_behindStrokes_95 ?_
              refine lv_iload hx hb dX4_behindStrokes_96 (lv_at hl 0 rfl) ?_
              refine g_callSU (nA := 3) hC V hl.1 (e_packed l D T (nI k5) (ee k5) x_7) w_751 w_752 w_18 w_753 (by decide +kernel) rfl ⟨(Nat.le_of_ble_eq_true rfl), (Nat.le_of_ble_eq_true rfl)⟩ [] rfl rfl (Nat.le_of_ble_eq_true rfl) dX4_behindStrokes_98 ⟨(Nat.le_of_ble_eq_true rfl), (Nat.le_of_ble_eq_true rfl)⟩ rfl (fun r w1 H locs hQ V => ?_)
              obtain ⟨z_8, rfl, rfl⟩ := hQ
              have V : gW D T A s [(e0, .inr (4, [.ref e1, .ref e2, .int (nI em), .ref e3, .ref e4, .ref e5, .ref e6])), (e4, .inl (T 0, 3, .inl ed)), (e5, .inl (T 0, 3, .inl ee)), (a0, .inr (5, [.int (nI an), .int am, .int al, .int ao, .int au, .ref a1, .ref a2, .ref a3, .ref a4, .ref a5, .ref a6, .ref a7, .ref a8, .ref a9, .ref a10])), (a5, .inl (T 0, 10, .inl af5)), (a6, .inl (T 0, 10, .inl af6))] H locs := V _ [] rfl rfl rfl (by decide +kernel) rfl
              show W p l e _ s m args below meth c H locs _ _ _ (F0 m 101 ls [.long z_8, .long x5_3])
              refine lv_lor hx hb dX4_behindStrokes_101 ?_
              refine lv_lstore_n (lv' := [(3, .long (x5_3 ||| z_8)), (6, .int x_7), (5, .int (nI k5)), (0, .ref e0), (1, .ref a0), (2, .int sk)]) hx hb dX4_behindStrokes_102 rfl hl (by decide) rfl (fun ls hl => ?_)
              refine lv_iinc (v := (nI (k5 + 1))) (lv' := [(5, .int (nI (k5 + 1))), (3, .long (x5_3 ||| z_8)), (6, .int x_7), (0, .ref e0), (1, .ref a0), (2, .int sk)]) hx hb dX4_behindStrokes_103 hl (k := 2) rfl (nI_1 _) (by decide) rfl (fun ls hl => ?_)
              refine lv_goto (tgt := 5) hx hb dX4_behindStrokes_106 (by decide) ?_
              exact ih_5 (k5 + 1) (x5_3 ||| z_8) (by omega) (by omega) _ _ _ V (lv_sub hl [0, 1, 3, 4, 5] rfl)
        · have V : gW D T A s [(e0, .inr (4, [.ref e1, .ref e2, .int (nI em), .ref e3, .ref e4, .ref e5, .ref e6])), (e4, .inl (T 0, 3, .inl ed)), (e5, .inl (T 0, 3, .inl ee)), (a0, .inr (5, [.int (nI an), .int am, .int al, .int ao, .int au, .ref a1, .ref a2, .ref a3, .ref a4, .ref a5, .ref a6, .ref a7, .ref a8, .ref a9, .ref a10])), (a5, .inl (T 0, 10, .inl af5)), (a6, .inl (T 0, 10, .inl af6))] H locs := V _ [] rfl rfl rfl (by decide +kernel) rfl
          show W p l e _ s m args below meth c H locs _ _ _ (F0 m 20 ls [.int (nI 0)])
          refine lv_if_eq (tgt := 35) hx hb dX4_behindStrokes_20 (by decide) (fun _ => ?_) (fun c => absurd (show (nI 0) = 0 by decide +kernel) c)
          refine lv_aload_n hx hb dX4_behindStrokes_35 rfl (lv_at hl 2 rfl) ?_
          refine g_get hC V (ci := 4) uwX4 0 rfl rfl 4 (by decide) w_717 rfl rfl dX4_behindStrokes_36 ?_
          refine lv_iload hx hb dX4_behindStrokes_39 (lv_at hl 0 rfl) ?_
          refine g_iald hC V 1 rfl (vp_in_nI (by omega) (by omega)) (v := (ed k5)) (congrArg _ (nI_clamp (by omega))) dX4_behindStrokes_41 ?_
          refine lv_istore (lv' := [(6, .int (ed k5)), (5, .int (nI k5)), (3, .long x5_3), (0, .ref e0), (1, .ref a0), (2, .int sk)]) hx hb dX4_behindStrokes_42 hl (by decide) rfl (fun ls hl => ?_)
          refine lv_iload hx hb dX4_behindStrokes_44 (lv_at hl 0 rfl) ?_
          refine lv_aload_n hx hb dX4_behindStrokes_46 rfl (lv_at hl 4 rfl) ?_
          refine g_get hC V (ci := 5) uwX5 3 rfl rfl 10 (by decide) w_75 rfl rfl dX4_behindStrokes_47 ?_
          refine lv_iload hx hb dX4_behindStrokes_50 (lv_at hl 1 rfl) ?_
          refine g_iald hC V 5 rfl (vp_in_nI (by omega) (by omega)) (v := (af6 k5)) (congrArg _ (nI_clamp (by omega))) dX4_behindStrokes_52 ?_
          refine lv_icmp_ge (tgt := 86) hx hb dX4_behindStrokes_53 (by decide) (fun c_9 => ?_) (fun c_9 => ?_)
          · skip
            refine lv_lload_n hx hb dX4_behindStrokes_86 rfl (lv_at hl 2 rfl) ?_
            refine lv_iload hx hb dX4_behindStrokes_87 (lv_at hl 1 rfl) ?_
            refine lv_aload_n hx hb dX4_behindStrokes_89 rfl (lv_at hl 3 rfl) ?_
            refine g_get hC V (ci := 4) uwX4 0 rfl rfl 5 (by decide) w_718 rfl rfl dX4_behindStrokes_90 ?_
            refine lv_iload hx hb dX4_behindStrokes_93 (lv_at hl 1 rfl) ?_
            refine g_iald hC V 2 rfl (vp_in_nI (by omega) (by omega)) (v := (ee k5)) (congrArg _ (nI_clamp (by omega))) dX4_behindStrokes_95 ?_
            refine lv_iload hx hb dX4_behindStrokes_96 (lv_at hl 0 rfl) ?_
            refine g_callSU (nA := 3) hC V hl.1 (e_packed l D T (nI k5) (ee k5) (ed k5)) w_751 w_752 w_18 w_753 (by decide +kernel) rfl ⟨(Nat.le_of_ble_eq_true rfl), (Nat.le_of_ble_eq_true rfl)⟩ [] rfl rfl (Nat.le_of_ble_eq_true rfl) dX4_behindStrokes_98 ⟨(Nat.le_of_ble_eq_true rfl), (Nat.le_of_ble_eq_true rfl)⟩ rfl (fun r w1 H locs hQ V => ?_)
            obtain ⟨z_10, rfl, rfl⟩ := hQ
            have V : gW D T A s [(e0, .inr (4, [.ref e1, .ref e2, .int (nI em), .ref e3, .ref e4, .ref e5, .ref e6])), (e4, .inl (T 0, 3, .inl ed)), (e5, .inl (T 0, 3, .inl ee)), (a0, .inr (5, [.int (nI an), .int am, .int al, .int ao, .int au, .ref a1, .ref a2, .ref a3, .ref a4, .ref a5, .ref a6, .ref a7, .ref a8, .ref a9, .ref a10])), (a5, .inl (T 0, 10, .inl af5)), (a6, .inl (T 0, 10, .inl af6))] H locs := V _ [] rfl rfl rfl (by decide +kernel) rfl
            show W p l e _ s m args below meth c H locs _ _ _ (F0 m 101 ls [.long z_10, .long x5_3])
            refine lv_lor hx hb dX4_behindStrokes_101 ?_
            refine lv_lstore_n (lv' := [(3, .long (x5_3 ||| z_10)), (6, .int (ed k5)), (5, .int (nI k5)), (0, .ref e0), (1, .ref a0), (2, .int sk)]) hx hb dX4_behindStrokes_102 rfl hl (by decide) rfl (fun ls hl => ?_)
            refine lv_iinc (v := (nI (k5 + 1))) (lv' := [(5, .int (nI (k5 + 1))), (3, .long (x5_3 ||| z_10)), (6, .int (ed k5)), (0, .ref e0), (1, .ref a0), (2, .int sk)]) hx hb dX4_behindStrokes_103 hl (k := 2) rfl (nI_1 _) (by decide) rfl (fun ls hl => ?_)
            refine lv_goto (tgt := 5) hx hb dX4_behindStrokes_106 (by decide) ?_
            exact ih_5 (k5 + 1) (x5_3 ||| z_10) (by omega) (by omega) _ _ _ V (lv_sub hl [0, 1, 3, 4, 5] rfl)
          · skip
            refine lv_aload_n hx hb dX4_behindStrokes_56 rfl (lv_at hl 3 rfl) ?_
            refine g_get hC V (ci := 4) uwX4 0 rfl rfl 5 (by decide) w_718 rfl rfl dX4_behindStrokes_57 ?_
            refine lv_iload hx hb dX4_behindStrokes_60 (lv_at hl 1 rfl) ?_
            refine g_iald hC V 2 rfl (vp_in_nI (by omega) (by omega)) (v := (ee k5)) (congrArg _ (nI_clamp (by omega))) dX4_behindStrokes_62 ?_
            refine lv_aload_n hx hb dX4_behindStrokes_63 rfl (lv_at hl 4 rfl) ?_
            refine g_get hC V (ci := 5) uwX5 3 rfl rfl 9 (by decide) w_73 rfl rfl dX4_behindStrokes_64 ?_
            refine lv_iload hx hb dX4_behindStrokes_67 (lv_at hl 1 rfl) ?_
            refine g_iald hC V 4 rfl (vp_in_nI (by omega) (by omega)) (v := (af5 k5)) (congrArg _ (nI_clamp (by omega))) dX4_behindStrokes_69 ?_
            refine lv_icmp_le (tgt := 86) hx hb dX4_behindStrokes_70 (by decide) (fun c_11 => ?_) (fun c_11 => ?_)
            · skip
              refine lv_lload_n hx hb dX4_behindStrokes_86 rfl (lv_at hl 2 rfl) ?_
              refine lv_iload hx hb dX4_behindStrokes_87 (lv_at hl 1 rfl) ?_
              refine lv_aload_n hx hb dX4_behindStrokes_89 rfl (lv_at hl 3 rfl) ?_
              refine g_get hC V (ci := 4) uwX4 0 rfl rfl 5 (by decide) w_718 rfl rfl dX4_behindStrokes_90 ?_
              refine lv_iload hx hb dX4_behindStrokes_93 (lv_at hl 1 rfl) ?_
              refine g_iald hC V 2 rfl (vp_in_nI (by omega) (by omega)) (v := (ee k5)) (congrArg _ (nI_clamp (by omega))) dX4_behindStrokes_95 ?_
              refine lv_iload hx hb dX4_behindStrokes_96 (lv_at hl 0 rfl) ?_
              refine g_callSU (nA := 3) hC V hl.1 (e_packed l D T (nI k5) (ee k5) (ed k5)) w_751 w_752 w_18 w_753 (by decide +kernel) rfl ⟨(Nat.le_of_ble_eq_true rfl), (Nat.le_of_ble_eq_true rfl)⟩ [] rfl rfl (Nat.le_of_ble_eq_true rfl) dX4_behindStrokes_98 ⟨(Nat.le_of_ble_eq_true rfl), (Nat.le_of_ble_eq_true rfl)⟩ rfl (fun r w1 H locs hQ V => ?_)
              obtain ⟨z_12, rfl, rfl⟩ := hQ
              have V : gW D T A s [(e0, .inr (4, [.ref e1, .ref e2, .int (nI em), .ref e3, .ref e4, .ref e5, .ref e6])), (e4, .inl (T 0, 3, .inl ed)), (e5, .inl (T 0, 3, .inl ee)), (a0, .inr (5, [.int (nI an), .int am, .int al, .int ao, .int au, .ref a1, .ref a2, .ref a3, .ref a4, .ref a5, .ref a6, .ref a7, .ref a8, .ref a9, .ref a10])), (a5, .inl (T 0, 10, .inl af5)), (a6, .inl (T 0, 10, .inl af6))] H locs := V _ [] rfl rfl rfl (by decide +kernel) rfl
              show W p l e _ s m args below meth c H locs _ _ _ (F0 m 101 ls [.long z_12, .long x5_3])
              refine lv_lor hx hb dX4_behindStrokes_101 ?_
              refine lv_lstore_n (lv' := [(3, .long (x5_3 ||| z_12)), (6, .int (ed k5)), (5, .int (nI k5)), (0, .ref e0), (1, .ref a0), (2, .int sk)]) hx hb dX4_behindStrokes_102 rfl hl (by decide) rfl (fun ls hl => ?_)
              refine lv_iinc (v := (nI (k5 + 1))) (lv' := [(5, .int (nI (k5 + 1))), (3, .long (x5_3 ||| z_12)), (6, .int (ed k5)), (0, .ref e0), (1, .ref a0), (2, .int sk)]) hx hb dX4_behindStrokes_103 hl (k := 2) rfl (nI_1 _) (by decide) rfl (fun ls hl => ?_)
              refine lv_goto (tgt := 5) hx hb dX4_behindStrokes_106 (by decide) ?_
              exact ih_5 (k5 + 1) (x5_3 ||| z_12) (by omega) (by omega) _ _ _ V (lv_sub hl [0, 1, 3, 4, 5] rfl)
            · skip
              refine lv_iconst (v := (nI 0)) hx hb dX4_behindStrokes_73 (by decide +kernel) ?_
              refine lv_iload hx hb dX4_behindStrokes_74 (lv_at hl 0 rfl) ?_
              refine lv_aload_n hx hb dX4_behindStrokes_76 rfl (lv_at hl 4 rfl) ?_
              refine g_get hC V (ci := 5) uwX5 3 rfl rfl 3 (by decide) w_47 rfl rfl dX4_behindStrokes_77 ?_
              refine lv_isub hx hb dX4_behindStrokes_80 ?_
              refine va_mmax hx hb (hml.trans hl.1.symm) hown (hts _ w_782) (hts _ w_392) (hts _ w_10) (hts _ w_393) (Nat.le_of_ble_eq_true rfl) (Nat.le_of_ble_eq_true rfl) (Nat.le_of_ble_eq_true rfl) (Nat.le_of_ble_eq_true rfl) dX4_behindStrokes_81 ?_
              refine lv_istore (lv' := [(6, .int (if (nI 0) < ((ed k5) - ao) then ((ed k5) - ao) else (nI 0))), (5, .int (nI k5)), (3, .long x5_3), (0, .ref e0), (1, .ref a0), (2, .int sk)]) hx hb dX4_behindStrokes_84 hl (by decide) rfl (fun ls hl => ?_)
              refine lv_lload_n hx hb dX4_behindStrokes_86 rfl (lv_at hl 2 rfl) ?_
              refine lv_iload hx hb dX4_behindStrokes_87 (lv_at hl 1 rfl) ?_
              refine lv_aload_n hx hb dX4_behindStrokes_89 rfl (lv_at hl 3 rfl) ?_
              refine g_get hC V (ci := 4) uwX4 0 rfl rfl 5 (by decide) w_718 rfl rfl dX4_behindStrokes_90 ?_
              refine lv_iload hx hb dX4_behindStrokes_93 (lv_at hl 1 rfl) ?_
              refine g_iald hC V 2 rfl (vp_in_nI (by omega) (by omega)) (v := (ee k5)) (congrArg _ (nI_clamp (by omega))) dX4_behindStrokes_95 ?_
              refine lv_iload hx hb dX4_behindStrokes_96 (lv_at hl 0 rfl) ?_
              refine g_callSU (nA := 3) hC V hl.1 (e_packed l D T (nI k5) (ee k5) (if (nI 0) < ((ed k5) - ao) then ((ed k5) - ao) else (nI 0))) w_751 w_752 w_18 w_753 (by decide +kernel) rfl ⟨(Nat.le_of_ble_eq_true rfl), (Nat.le_of_ble_eq_true rfl)⟩ [] rfl rfl (Nat.le_of_ble_eq_true rfl) dX4_behindStrokes_98 ⟨(Nat.le_of_ble_eq_true rfl), (Nat.le_of_ble_eq_true rfl)⟩ rfl (fun r w1 H locs hQ V => ?_)
              obtain ⟨z_13, rfl, rfl⟩ := hQ
              have V : gW D T A s [(e0, .inr (4, [.ref e1, .ref e2, .int (nI em), .ref e3, .ref e4, .ref e5, .ref e6])), (e4, .inl (T 0, 3, .inl ed)), (e5, .inl (T 0, 3, .inl ee)), (a0, .inr (5, [.int (nI an), .int am, .int al, .int ao, .int au, .ref a1, .ref a2, .ref a3, .ref a4, .ref a5, .ref a6, .ref a7, .ref a8, .ref a9, .ref a10])), (a5, .inl (T 0, 10, .inl af5)), (a6, .inl (T 0, 10, .inl af6))] H locs := V _ [] rfl rfl rfl (by decide +kernel) rfl
              show W p l e _ s m args below meth c H locs _ _ _ (F0 m 101 ls [.long z_13, .long x5_3])
              refine lv_lor hx hb dX4_behindStrokes_101 ?_
              refine lv_lstore_n (lv' := [(3, .long (x5_3 ||| z_13)), (6, .int (if (nI 0) < ((ed k5) - ao) then ((ed k5) - ao) else (nI 0))), (5, .int (nI k5)), (0, .ref e0), (1, .ref a0), (2, .int sk)]) hx hb dX4_behindStrokes_102 rfl hl (by decide) rfl (fun ls hl => ?_)
              refine lv_iinc (v := (nI (k5 + 1))) (lv' := [(5, .int (nI (k5 + 1))), (3, .long (x5_3 ||| z_13)), (6, .int (if (nI 0) < ((ed k5) - ao) then ((ed k5) - ao) else (nI 0))), (0, .ref e0), (1, .ref a0), (2, .int sk)]) hx hb dX4_behindStrokes_103 hl (k := 2) rfl (nI_1 _) (by decide) rfl (fun ls hl => ?_)
              refine lv_goto (tgt := 5) hx hb dX4_behindStrokes_106 (by decide) ?_
              exact ih_5 (k5 + 1) (x5_3 ||| z_13) (by omega) (by omega) _ _ _ V (lv_sub hl [0, 1, 3, 4, 5] rfl)
  exact L_1 _ 0 ((nI 0).toInt64) (by omega) (Nat.lt_succ_self _) _ _ _ V (lv_sub hl [0, 1, 2, 3, 4] rfl)

def q_e_goOn (T : Nat → ClassId) (e0 : Nat) (a0 : Nat) (v : Int64) (e1 : Nat) (e2 : Nat) (em : Nat) (e3 : Nat) (e4 : Nat) (e5 : Nat) (e6 : Nat) (ea : Nat → Int64) (eb : Nat → Int32) (ec : Nat → Int32) (ed : Nat → Int32) (ee : Nat → Int32) (ef : Nat → Int32) (an : Nat) (am : Int32) (al : Int32) (ao : Int32) (au : Int32) (a1 : Nat) (a2 : Nat) (a3 : Nat) (a4 : Nat) (a5 : Nat) (a6 : Nat) (a7 : Nat) (a8 : Nat) (a9 : Nat) (a10 : Nat) (af4 : Nat → Int32) (af5 : Nat → Int32) (af6 : Nat → Int32) : Option Value → va_W → Prop := fun rr ww => (∃ (em2 : Nat) (g1 : Nat → Int64) (g2 : Nat → Int32) (gc : Nat → Int32) (gd : Nat → Int32) (ge : Nat → Int32), rr = none ∧ ww = [(e0, .inr (4, [.ref e1, .ref e2, .int (nI em2), .ref e3, .ref e4, .ref e5, .ref e6])), (e1, .inl (T 1, 3001, .inr (.inl g1))), (e2, .inl (T 0, 8192, .inl g2)), (e3, .inl (T 0, 3, .inl gc)), (e4, .inl (T 0, 3, .inl gd)), (e5, .inl (T 0, 3, .inl ge)), (e6, .inl (T 0, 24, .inl ef)), (a0, .inr (5, [.int (nI an), .int am, .int al, .int ao, .int au, .ref a1, .ref a2, .ref a3, .ref a4, .ref a5, .ref a6, .ref a7, .ref a8, .ref a9, .ref a10])), (a4, .inl (T 0, 10, .inl af4)), (a5, .inl (T 0, 10, .inl af5)), (a6, .inl (T 0, 10, .inl af6))] ∧ em ≤ em2 ∧ em2 ≤ 3001 ∧ (∀ i, i < 8192 → bd (g2 i) (em2 + 1)))
set_option maxHeartbeats 4000000 in
set_option maxRecDepth 100000 in
theorem e_goOn (l : Launch) (D : va_G) (T : Nat → ClassId) (e0 : Nat) (a0 : Nat) (v : Int64) (e1 : Nat) (e2 : Nat) (em : Nat) (e3 : Nat) (e4 : Nat) (e5 : Nat) (e6 : Nat) (ea : Nat → Int64) (eb : Nat → Int32) (ec : Nat → Int32) (ed : Nat → Int32) (ee : Nat → Int32) (ef : Nat → Int32) (an : Nat) (am : Int32) (al : Int32) (ao : Int32) (au : Int32) (a1 : Nat) (a2 : Nat) (a3 : Nat) (a4 : Nat) (a5 : Nat) (a6 : Nat) (a7 : Nat) (a8 : Nat) (a9 : Nat) (a10 : Nat) (af4 : Nat → Int32) (af5 : Nat → Int32) (af6 : Nat → Int32) (h_m : em ≤ 3001) (h_sl : ∀ i, i < 8192 → bd (eb i) (em + 1)) (h_n : an ≤ 3) : Ct l yX4_goOnFrom cX4_goOnFrom 7 none 2 0 0 D T [.ref e0, .ref a0, .long v] [(e0, .inr (4, [.ref e1, .ref e2, .int (nI em), .ref e3, .ref e4, .ref e5, .ref e6])), (e1, .inl (T 1, 3001, .inr (.inl ea))), (e2, .inl (T 0, 8192, .inl eb)), (e3, .inl (T 0, 3, .inl ec)), (e4, .inl (T 0, 3, .inl ed)), (e5, .inl (T 0, 3, .inl ee)), (e6, .inl (T 0, 24, .inl ef)), (a0, .inr (5, [.int (nI an), .int am, .int al, .int ao, .int au, .ref a1, .ref a2, .ref a3, .ref a4, .ref a5, .ref a6, .ref a7, .ref a8, .ref a9, .ref a10])), (a4, .inl (T 0, 10, .inl af4)), (a5, .inl (T 0, 10, .inl af5)), (a6, .inl (T 0, 10, .inl af6))] (q_e_goOn T e0 a0 v e1 e2 em e3 e4 e5 e6 ea eb ec ed ee ef an am al ao au a1 a2 a3 a4 a5 a6 a7 a8 a9 a10 af4 af5 af6) := by
  refine Ct.of (cc := cX4_goOnFrom) (maxL := 7) (ret := none) (by decide) (Nat.le_of_ble_eq_true rfl) ?_
  intro p e s m args below meth c A ls hC hnm V hl
  obtain ⟨hx, hb, hr, hml, hown, hts, hlocks⟩ := id hC
  generalize hH : s.heap = H at V ⊢
  clear hH
  have hl : lv_has ls 7 [(0, .ref e0), (1, .ref a0), (2, .long v)] := hl
  generalize hlo : ([] : List Loc) = locs at V ⊢
  clear hlo
  have hpw := pw3 h_n
  refine lv_aload_n hx hb dX4_goOnFrom_0 rfl (lv_at hl 0 rfl) ?_
  refine lv_aload_n hx hb dX4_goOnFrom_1 rfl (lv_at hl 1 rfl) ?_
  refine lv_lload_n hx hb dX4_goOnFrom_2 rfl (lv_at hl 2 rfl) ?_
  refine g_callVU (nA := 2) hC V hl.1 (e_unpack l D T e0 a0 v e1 e2 em e3 e4 e5 e6 ec ed an am al ao au a1 a2 a3 a4 a5 a6 a7 a8 a9 a10 (by first | assumption | omega)) w_763 w_765 w_s27 w_18 w_766 (by decide +kernel) rfl ⟨(Nat.le_of_ble_eq_true rfl), (Nat.le_of_ble_eq_true rfl)⟩ 0 (ci := 4) rfl rfl [0, 3, 4, 7] rfl rfl (Nat.le_of_ble_eq_true rfl) dX4_goOnFrom_3 ⟨(Nat.le_of_ble_eq_true rfl), (Nat.le_of_ble_eq_true rfl)⟩ rfl (fun r w1 H locs hQ V => ?_)
  obtain ⟨gc_1, gd_2, rfl, rfl⟩ := hQ
  have V : gW D T A s [(e0, .inr (4, [.ref e1, .ref e2, .int (nI em), .ref e3, .ref e4, .ref e5, .ref e6])), (e1, .inl (T 1, 3001, .inr (.inl ea))), (e2, .inl (T 0, 8192, .inl eb)), (e3, .inl (T 0, 3, .inl gc_1)), (e4, .inl (T 0, 3, .inl gd_2)), (e5, .inl (T 0, 3, .inl ee)), (e6, .inl (T 0, 24, .inl ef)), (a0, .inr (5, [.int (nI an), .int am, .int al, .int ao, .int au, .ref a1, .ref a2, .ref a3, .ref a4, .ref a5, .ref a6, .ref a7, .ref a8, .ref a9, .ref a10])), (a4, .inl (T 0, 10, .inl af4)), (a5, .inl (T 0, 10, .inl af5)), (a6, .inl (T 0, 10, .inl af6))] H locs := V _ [0, 2, 0, 2] rfl rfl rfl (by decide +kernel) rfl
  show W p l e _ s m args below meth c H locs _ _ _ (F0 m 6 ls [])
  refine lv_iconst (v := (nI 0)) hx hb dX4_goOnFrom_6 (by decide +kernel) ?_
  refine lv_istore (lv' := [(4, .int (nI 0)), (0, .ref e0), (1, .ref a0), (2, .long v)]) hx hb dX4_goOnFrom_7 hl (by decide) rfl (fun ls hl => ?_)
  refine lv_iconst (v := (nI 0)) hx hb dX4_goOnFrom_9 (by decide +kernel) ?_
  refine lv_istore (lv' := [(5, .int (nI 0)), (4, .int (nI 0)), (0, .ref e0), (1, .ref a0), (2, .long v)]) hx hb dX4_goOnFrom_10 hl (by decide) rfl (fun ls hl => ?_)
  have L_3 : ∀ (fu : Nat) (k12 : Nat) (ab : Nat), k12 ≤ an → ab < 8 → an - k12 < fu → ∀ (H : Heap) (locs : List Loc) (ls : Array Slot), gW D T A s [(e0, .inr (4, [.ref e1, .ref e2, .int (nI em), .ref e3, .ref e4, .ref e5, .ref e6])), (e1, .inl (T 1, 3001, .inr (.inl ea))), (e2, .inl (T 0, 8192, .inl eb)), (e3, .inl (T 0, 3, .inl gc_1)), (e4, .inl (T 0, 3, .inl gd_2)), (e5, .inl (T 0, 3, .inl ee)), (e6, .inl (T 0, 24, .inl ef)), (a0, .inr (5, [.int (nI an), .int am, .int al, .int ao, .int au, .ref a1, .ref a2, .ref a3, .ref a4, .ref a5, .ref a6, .ref a7, .ref a8, .ref a9, .ref a10])), (a4, .inl (T 0, 10, .inl af4)), (a5, .inl (T 0, 10, .inl af5)), (a6, .inl (T 0, 10, .inl af6))] H locs → lv_has ls 7 [(5, .int (nI k12)), (4, .int (nI ab)), (0, .ref e0), (1, .ref a0), (2, .long v)] → W p l e (rmD 2 0 0) s m args below meth c H locs 0 0 (MQ below (gQ D A (q_e_goOn T e0 a0 v e1 e2 em e3 e4 e5 e6 ea eb ec ed ee ef an am al ao au a1 a2 a3 a4 a5 a6 a7 a8 a9 a10 af4 af5 af6)) args s 0 0 A) (F0 m 12 ls []) := by
    intro fu_12
    induction fu_12 with
    | zero => intro k12 ab hk12 hab hmu; exact absurd hmu (Nat.not_lt_zero _)
    | succ fu_12 ih_12 =>
      intro k12 ab hk12 hab hmu_12 H locs ls V hl
      refine lv_iload hx hb dX4_goOnFrom_12 (lv_at hl 0 rfl) ?_
      refine lv_aload_n hx hb dX4_goOnFrom_14 rfl (lv_at hl 3 rfl) ?_
      refine g_get hC V (ci := 5) uwX5 7 rfl rfl 0 (by decide) w_34 rfl rfl dX4_goOnFrom_15 ?_
      refine lv_icmp_ge (tgt := 50) hx hb dX4_goOnFrom_18 (by decide) (fun c_4 => ?_) (fun c_4 => ?_)
      · skip
        have c_4 := b_le (by omega) (by omega) c_4
        refine lv_iconst (v := (nI 0)) hx hb dX4_goOnFrom_50 (by decide +kernel) ?_
        refine lv_istore (lv' := [(5, .int (nI 0)), (4, .int (nI ab)), (0, .ref e0), (1, .ref a0), (2, .long v)]) hx hb dX4_goOnFrom_51 hl (by decide) rfl (fun ls hl => ?_)
        have L_5 : ∀ (fu : Nat) (k53 : Nat) (mt : Nat) (fa : Nat → Int64) (fb : Nat → Int32) (fe : Nat → Int32), k53 ≤ 2 ^ an → em ≤ mt → mt ≤ 3001 → (∀ i, i < 8192 → bd (fb i) (mt + 1)) → 2 ^ an - k53 < fu → ∀ (H : Heap) (locs : List Loc) (ls : Array Slot), gW D T A s [(e0, .inr (4, [.ref e1, .ref e2, .int (nI mt), .ref e3, .ref e4, .ref e5, .ref e6])), (e1, .inl (T 1, 3001, .inr (.inl fa))), (e2, .inl (T 0, 8192, .inl fb)), (e3, .inl (T 0, 3, .inl gc_1)), (e4, .inl (T 0, 3, .inl gd_2)), (e5, .inl (T 0, 3, .inl fe)), (e6, .inl (T 0, 24, .inl ef)), (a0, .inr (5, [.int (nI an), .int am, .int al, .int ao, .int au, .ref a1, .ref a2, .ref a3, .ref a4, .ref a5, .ref a6, .ref a7, .ref a8, .ref a9, .ref a10])), (a4, .inl (T 0, 10, .inl af4)), (a5, .inl (T 0, 10, .inl af5)), (a6, .inl (T 0, 10, .inl af6))] H locs → lv_has ls 7 [(5, .int (nI k53)), (4, .int (nI ab)), (0, .ref e0), (1, .ref a0), (2, .long v)] → W p l e (rmD 2 0 0) s m args below meth c H locs 0 0 (MQ below (gQ D A (q_e_goOn T e0 a0 v e1 e2 em e3 e4 e5 e6 ea eb ec ed ee ef an am al ao au a1 a2 a3 a4 a5 a6 a7 a8 a9 a10 af4 af5 af6)) args s 0 0 A) (F0 m 53 ls []) := by
          intro fu_53
          induction fu_53 with
          | zero => intro k53 mt fa fb fe hk53 hm1 hm2 hm3 hmu; exact absurd hmu (Nat.not_lt_zero _)
          | succ fu_53 ih_53 =>
            intro k53 mt fa fb fe hk53 hm1 hm2 hm3 hmu_53 H locs ls V hl
            refine lv_iload hx hb dX4_goOnFrom_53 (lv_at hl 0 rfl) ?_
            refine lv_aload_n hx hb dX4_goOnFrom_55 rfl (lv_at hl 3 rfl) ?_
            refine g_callVU (nA := 0) hC V hl.1 (s_everyone l D T a0 an am al ao au a1 a2 a3 a4 a5 a6 a7 a8 a9 a10 (by first | assumption | omega)) w_744 w_463 w_464 w_3 w_465 (by decide +kernel) rfl ⟨(Nat.le_of_ble_eq_true rfl), (Nat.le_of_ble_eq_true rfl)⟩ 7 (ci := 5) rfl rfl [7] rfl rfl (Nat.le_of_ble_eq_true rfl) dX4_goOnFrom_56 ⟨(Nat.le_of_ble_eq_true rfl), (Nat.le_of_ble_eq_true rfl)⟩ rfl (fun r w1 H locs hQ V => ?_)
            obtain ⟨rfl, rfl⟩ := hQ
            have V : gW D T A s [(e0, .inr (4, [.ref e1, .ref e2, .int (nI mt), .ref e3, .ref e4, .ref e5, .ref e6])), (e1, .inl (T 1, 3001, .inr (.inl fa))), (e2, .inl (T 0, 8192, .inl fb)), (e3, .inl (T 0, 3, .inl gc_1)), (e4, .inl (T 0, 3, .inl gd_2)), (e5, .inl (T 0, 3, .inl fe)), (e6, .inl (T 0, 24, .inl ef)), (a0, .inr (5, [.int (nI an), .int am, .int al, .int ao, .int au, .ref a1, .ref a2, .ref a3, .ref a4, .ref a5, .ref a6, .ref a7, .ref a8, .ref a9, .ref a10])), (a4, .inl (T 0, 10, .inl af4)), (a5, .inl (T 0, 10, .inl af5)), (a6, .inl (T 0, 10, .inl af6))] H locs := V _ [7] rfl rfl rfl (by decide +kernel) rfl
            show W p l e _ s m args below meth c H locs _ _ _ (F0 m 59 ls [.int (nI (2 ^ an - 1)), .int (nI k53)])
            refine lv_icmp_gt (tgt := 161) hx hb dX4_goOnFrom_59 (by decide) (fun c_6 => ?_) (fun c_6 => ?_)
            · skip
              have c_6 := b_lt (by omega) (by omega) c_6
              exact g_vret (Qr := (q_e_goOn T e0 a0 v e1 e2 em e3 e4 e5 e6 ea eb ec ed ee ef an am al ao au a1 a2 a3 a4 a5 a6 a7 a8 a9 a10 af4 af5 af6)) hC V ⟨(Nat.le_of_ble_eq_true rfl), (Nat.le_of_ble_eq_true rfl)⟩ ⟨mt, fa, fb, gc_1, gd_2, fe, rfl, rfl, (by first | assumption | omega), (by first | assumption | omega), (by first | assumption | omega)⟩ dX4_goOnFrom_161
            · skip
              have c_6 := b_nlt (by omega) (by omega) c_6
              refine lv_iconst (v := (nI 0)) hx hb dX4_goOnFrom_62 (by decide +kernel) ?_
              refine lv_istore (lv' := [(6, .int (nI 0)), (5, .int (nI k53)), (4, .int (nI ab)), (0, .ref e0), (1, .ref a0), (2, .long v)]) hx hb dX4_goOnFrom_63 hl (by decide) rfl (fun ls hl => ?_)
              have L_7 : ∀ (fu : Nat) (k65 : Nat) (fe2 : Nat → Int32), k65 ≤ an → an - k65 < fu → ∀ (H : Heap) (locs : List Loc) (ls : Array Slot), gW D T A s [(e0, .inr (4, [.ref e1, .ref e2, .int (nI mt), .ref e3, .ref e4, .ref e5, .ref e6])), (e1, .inl (T 1, 3001, .inr (.inl fa))), (e2, .inl (T 0, 8192, .inl fb)), (e3, .inl (T 0, 3, .inl gc_1)), (e4, .inl (T 0, 3, .inl gd_2)), (e5, .inl (T 0, 3, .inl fe2)), (e6, .inl (T 0, 24, .inl ef)), (a0, .inr (5, [.int (nI an), .int am, .int al, .int ao, .int au, .ref a1, .ref a2, .ref a3, .ref a4, .ref a5, .ref a6, .ref a7, .ref a8, .ref a9, .ref a10])), (a4, .inl (T 0, 10, .inl af4)), (a5, .inl (T 0, 10, .inl af5)), (a6, .inl (T 0, 10, .inl af6))] H locs → lv_has ls 7 [(6, .int (nI k65)), (5, .int (nI k53)), (4, .int (nI ab)), (0, .ref e0), (1, .ref a0), (2, .long v)] → W p l e (rmD 2 0 0) s m args below meth c H locs 0 0 (MQ below (gQ D A (q_e_goOn T e0 a0 v e1 e2 em e3 e4 e5 e6 ea eb ec ed ee ef an am al ao au a1 a2 a3 a4 a5 a6 a7 a8 a9 a10 af4 af5 af6)) args s 0 0 A) (F0 m 65 ls []) := by
                intro fu_65
                induction fu_65 with
                | zero => intro k65 fe2 hk65 hmu; exact absurd hmu (Nat.not_lt_zero _)
                | succ fu_65 ih_65 =>
                  intro k65 fe2 hk65 hmu_65 H locs ls V hl
                  refine lv_iload hx hb dX4_goOnFrom_65 (lv_at hl 0 rfl) ?_
                  refine lv_aload_n hx hb dX4_goOnFrom_67 rfl (lv_at hl 4 rfl) ?_
                  refine g_get hC V (ci := 5) uwX5 7 rfl rfl 0 (by decide) w_34 rfl rfl dX4_goOnFrom_68 ?_
                  refine lv_icmp_ge (tgt := 110) hx hb dX4_goOnFrom_71 (by decide) (fun c_8 => ?_) (fun c_8 => ?_)
                  · skip
                    have c_8 := b_le (by omega) (by omega) c_8
                    refine lv_iconst (v := (nI 0)) hx hb dX4_goOnFrom_110 (by decide +kernel) ?_
                    refine lv_istore (lv' := [(6, .int (nI 0)), (5, .int (nI k53)), (4, .int (nI ab)), (0, .ref e0), (1, .ref a0), (2, .long v)]) hx hb dX4_goOnFrom_111 hl (by decide) rfl (fun ls hl => ?_)
                    have L_9 : ∀ (fu : Nat) (k113 : Nat) (mu : Nat) (fa2 : Nat → Int64) (fb2 : Nat → Int32), k113 ≤ ab + 1 → em ≤ mu → mu ≤ 3001 → (∀ i, i < 8192 → bd (fb2 i) (mu + 1)) → ab + 1 - k113 < fu → ∀ (H : Heap) (locs : List Loc) (ls : Array Slot), gW D T A s [(e0, .inr (4, [.ref e1, .ref e2, .int (nI mu), .ref e3, .ref e4, .ref e5, .ref e6])), (e1, .inl (T 1, 3001, .inr (.inl fa2))), (e2, .inl (T 0, 8192, .inl fb2)), (e3, .inl (T 0, 3, .inl gc_1)), (e4, .inl (T 0, 3, .inl gd_2)), (e5, .inl (T 0, 3, .inl fe2)), (e6, .inl (T 0, 24, .inl ef)), (a0, .inr (5, [.int (nI an), .int am, .int al, .int ao, .int au, .ref a1, .ref a2, .ref a3, .ref a4, .ref a5, .ref a6, .ref a7, .ref a8, .ref a9, .ref a10])), (a4, .inl (T 0, 10, .inl af4)), (a5, .inl (T 0, 10, .inl af5)), (a6, .inl (T 0, 10, .inl af6))] H locs → lv_has ls 7 [(6, .int (nI k113)), (5, .int (nI k53)), (4, .int (nI ab)), (0, .ref e0), (1, .ref a0), (2, .long v)] → W p l e (rmD 2 0 0) s m args below meth c H locs 0 0 (MQ below (gQ D A (q_e_goOn T e0 a0 v e1 e2 em e3 e4 e5 e6 ea eb ec ed ee ef an am al ao au a1 a2 a3 a4 a5 a6 a7 a8 a9 a10 af4 af5 af6)) args s 0 0 A) (F0 m 113 ls []) := by
                      intro fu_113
                      induction fu_113 with
                      | zero => intro k113 mu fa2 fb2 hk113 hu1 hu2 hu3 hmu; exact absurd hmu (Nat.not_lt_zero _)
                      | succ fu_113 ih_113 =>
                        intro k113 mu fa2 fb2 hk113 hu1 hu2 hu3 hmu_113 H locs ls V hl
                        refine lv_iload hx hb dX4_goOnFrom_113 (lv_at hl 0 rfl) ?_
                        refine lv_iload hx hb dX4_goOnFrom_115 (lv_at hl 2 rfl) ?_
                        refine lv_icmp_gt (tgt := 155) hx hb dX4_goOnFrom_117 (by decide) (fun c_10 => ?_) (fun c_10 => ?_)
                        · skip
                          have c_10 := b_lt (by omega) (by omega) c_10
                          refine lv_iinc (v := (nI (k53 + 1))) (lv' := [(5, .int (nI (k53 + 1))), (6, .int (nI k113)), (4, .int (nI ab)), (0, .ref e0), (1, .ref a0), (2, .long v)]) hx hb dX4_goOnFrom_155 hl (k := 1) rfl (nI_1 _) (by decide) rfl (fun ls hl => ?_)
                          refine lv_goto (tgt := 53) hx hb dX4_goOnFrom_158 (by decide) ?_
                          exact ih_53 (k53 + 1) mu fa2 fb2 fe2 (by omega) (by omega) (by omega) (by assumption) (by omega) _ _ _ V (lv_sub hl [0, 2, 3, 4, 5] rfl)
                        · skip
                          have c_10 := b_nlt (by omega) (by omega) c_10
                          refine lv_iload hx hb dX4_goOnFrom_120 (lv_at hl 0 rfl) ?_
                          refine lv_iload hx hb dX4_goOnFrom_122 (lv_at hl 2 rfl) ?_
                          refine lv_iconst (v := (-1)) hx hb dX4_goOnFrom_124 (by decide +kernel) ?_
                          refine lv_ixor hx hb dX4_goOnFrom_125 ?_
                          refine lv_iand hx hb dX4_goOnFrom_126 ?_
                          refine lv_if_ne (tgt := 149) hx hb dX4_goOnFrom_127 (by decide) (fun c_11 => ?_) (fun c_11 => ?_)
                          · skip
                            refine lv_iinc (v := (nI (k113 + 1))) (lv' := [(6, .int (nI (k113 + 1))), (5, .int (nI k53)), (4, .int (nI ab)), (0, .ref e0), (1, .ref a0), (2, .long v)]) hx hb dX4_goOnFrom_149 hl (k := 0) rfl (nI_1 _) (by decide) rfl (fun ls hl => ?_)
                            refine lv_goto (tgt := 113) hx hb dX4_goOnFrom_152 (by decide) ?_
                            exact ih_113 (k113 + 1) mu fa2 fb2 (by omega) (by omega) (by omega) (by assumption) (by omega) _ _ _ V (lv_sub hl [0, 1, 2, 3, 4, 5] rfl)
                          · skip
                            refine lv_iload hx hb dX4_goOnFrom_130 (lv_at hl 0 rfl) ?_
                            refine lv_iload hx hb dX4_goOnFrom_132 (lv_at hl 1 rfl) ?_
                            refine lv_iand hx hb dX4_goOnFrom_134 ?_
                            refine lv_if_ne (tgt := 149) hx hb dX4_goOnFrom_135 (by decide) (fun c_12 => ?_) (fun c_12 => ?_)
                            · skip
                              refine lv_iinc (v := (nI (k113 + 1))) (lv' := [(6, .int (nI (k113 + 1))), (5, .int (nI k53)), (4, .int (nI ab)), (0, .ref e0), (1, .ref a0), (2, .long v)]) hx hb dX4_goOnFrom_149 hl (k := 0) rfl (nI_1 _) (by decide) rfl (fun ls hl => ?_)
                              refine lv_goto (tgt := 113) hx hb dX4_goOnFrom_152 (by decide) ?_
                              exact ih_113 (k113 + 1) mu fa2 fb2 (by omega) (by omega) (by omega) (by assumption) (by omega) _ _ _ V (lv_sub hl [0, 1, 2, 3, 4, 5] rfl)
                            · skip
                              refine lv_aload_n hx hb dX4_goOnFrom_138 rfl (lv_at hl 3 rfl) ?_
                              refine lv_aload_n hx hb dX4_goOnFrom_139 rfl (lv_at hl 3 rfl) ?_
                              refine lv_aload_n hx hb dX4_goOnFrom_140 rfl (lv_at hl 4 rfl) ?_
                              refine lv_iload hx hb dX4_goOnFrom_141 (lv_at hl 0 rfl) ?_
                              refine g_callVU (nA := 2) hC V hl.1 (e_behind l D T e0 a0 (nI k113) e1 e2 mu e3 e4 e5 e6 gd_2 fe2 an am al ao au a1 a2 a3 a4 a5 a6 a7 a8 a9 a10 af5 af6 (by first | assumption | omega)) w_777 w_779 w_s30 w_18 w_780 (by decide +kernel) rfl ⟨(Nat.le_of_ble_eq_true rfl), (Nat.le_of_ble_eq_true rfl)⟩ 0 (ci := 4) rfl rfl [0, 4, 5, 7, 9, 10] rfl rfl (Nat.le_of_ble_eq_true rfl) dX4_goOnFrom_143 ⟨(Nat.le_of_ble_eq_true rfl), (Nat.le_of_ble_eq_true rfl)⟩ rfl (fun r w1 H locs hQ V => ?_)
                              obtain ⟨z_13, rfl, rfl⟩ := hQ
                              have V : gW D T A s [(e0, .inr (4, [.ref e1, .ref e2, .int (nI mu), .ref e3, .ref e4, .ref e5, .ref e6])), (e1, .inl (T 1, 3001, .inr (.inl fa2))), (e2, .inl (T 0, 8192, .inl fb2)), (e3, .inl (T 0, 3, .inl gc_1)), (e4, .inl (T 0, 3, .inl gd_2)), (e5, .inl (T 0, 3, .inl fe2)), (e6, .inl (T 0, 24, .inl ef)), (a0, .inr (5, [.int (nI an), .int am, .int al, .int ao, .int au, .ref a1, .ref a2, .ref a3, .ref a4, .ref a5, .ref a6, .ref a7, .ref a8, .ref a9, .ref a10])), (a4, .inl (T 0, 10, .inl af4)), (a5, .inl (T 0, 10, .inl af5)), (a6, .inl (T 0, 10, .inl af6))] H locs := V _ [0, 3, 0, 1, 1, 0] rfl rfl rfl (by decide +kernel) rfl
                              show W p l e _ s m args below meth c H locs _ _ _ (F0 m 146 ls [.long z_13, .ref e0])
                              refine g_callVU (nA := 1) hC V hl.1 (e_meet l D T e0 z_13 e1 e2 mu e3 e4 e5 e6 fa2 fb2 (by first | assumption | omega) (by first | assumption | omega)) w_754 w_756 w_s25 w_18 w_757 (by decide +kernel) rfl ⟨(Nat.le_of_ble_eq_true rfl), (Nat.le_of_ble_eq_true rfl)⟩ 0 (ci := 4) rfl rfl [0, 1, 2] rfl rfl (Nat.le_of_ble_eq_true rfl) dX4_goOnFrom_146 ⟨(Nat.le_of_ble_eq_true rfl), (Nat.le_of_ble_eq_true rfl)⟩ rfl (fun r w1 H locs hQ V => ?_)
                              obtain ⟨em2_14, g1_15, g2_16, rfl, rfl, f_17, f_18, f_19⟩ := hQ
                              have V : gW D T A s [(e0, .inr (4, [.ref e1, .ref e2, .int (nI em2_14), .ref e3, .ref e4, .ref e5, .ref e6])), (e1, .inl (T 1, 3001, .inr (.inl g1_15))), (e2, .inl (T 0, 8192, .inl g2_16)), (e3, .inl (T 0, 3, .inl gc_1)), (e4, .inl (T 0, 3, .inl gd_2)), (e5, .inl (T 0, 3, .inl fe2)), (e6, .inl (T 0, 24, .inl ef)), (a0, .inr (5, [.int (nI an), .int am, .int al, .int ao, .int au, .ref a1, .ref a2, .ref a3, .ref a4, .ref a5, .ref a6, .ref a7, .ref a8, .ref a9, .ref a10])), (a4, .inl (T 0, 10, .inl af4)), (a5, .inl (T 0, 10, .inl af5)), (a6, .inl (T 0, 10, .inl af6))] H locs := V _ [0, 0, 0] rfl rfl rfl (by decide +kernel) rfl
                              show W p l e _ s m args below meth c H locs _ _ _ (F0 m 149 ls [])
                              refine lv_iinc (v := (nI (k113 + 1))) (lv' := [(6, .int (nI (k113 + 1))), (5, .int (nI k53)), (4, .int (nI ab)), (0, .ref e0), (1, .ref a0), (2, .long v)]) hx hb dX4_goOnFrom_149 hl (k := 0) rfl (nI_1 _) (by decide) rfl (fun ls hl => ?_)
                              refine lv_goto (tgt := 113) hx hb dX4_goOnFrom_152 (by decide) ?_
                              exact ih_113 (k113 + 1) em2_14 g1_15 g2_16 (by omega) (by omega) (by omega) (by assumption) (by omega) _ _ _ V (lv_sub hl [0, 1, 2, 3, 4, 5] rfl)
                    exact L_9 _ 0 mt fa fb (by omega) (by omega) (by omega) (by assumption) (Nat.lt_succ_self _) _ _ _ V (lv_sub hl [0, 1, 2, 3, 4, 5] rfl)
                  · skip
                    have c_8 := b_nle (by omega) (by omega) c_8
                    refine lv_aload_n hx hb dX4_goOnFrom_74 rfl (lv_at hl 3 rfl) ?_
                    refine g_get hC V (ci := 4) uwX4 0 rfl rfl 5 (by decide) w_718 rfl rfl dX4_goOnFrom_75 ?_
                    refine lv_iload hx hb dX4_goOnFrom_78 (lv_at hl 0 rfl) ?_
                    refine lv_aload_n hx hb dX4_goOnFrom_80 rfl (lv_at hl 3 rfl) ?_
                    refine g_get hC V (ci := 4) uwX4 0 rfl rfl 3 (by decide) w_716 rfl rfl dX4_goOnFrom_81 ?_
                    refine lv_iload hx hb dX4_goOnFrom_84 (lv_at hl 0 rfl) ?_
                    refine g_iald hC V 3 rfl (vp_in_nI (by omega) (by omega)) (v := (gc_1 k65)) (congrArg _ (nI_clamp (by omega))) dX4_goOnFrom_86 ?_
                    refine lv_aload_n hx hb dX4_goOnFrom_87 rfl (lv_at hl 3 rfl) ?_
                    refine g_get hC V (ci := 4) uwX4 0 rfl rfl 6 (by decide) w_719 rfl rfl dX4_goOnFrom_88 ?_
                    refine lv_iconst (v := (nI 3)) hx hb dX4_goOnFrom_91 (by decide +kernel) ?_
                    refine lv_iload hx hb dX4_goOnFrom_92 (lv_at hl 1 rfl) ?_
                    refine lv_imul hx hb dX4_goOnFrom_94 ?_
                    refine g_vi (y := (nI (3 * k53))) (pk_mul _ _) ?_
                    refine lv_iload hx hb dX4_goOnFrom_95 (lv_at hl 0 rfl) ?_
                    refine lv_iadd hx hb dX4_goOnFrom_97 ?_
                    refine g_vi (y := (nI ((3 * k53) + k65))) (nI_add _ _) ?_
                    refine g_iald hC V 6 rfl (vp_in_nI (by omega) (by omega)) (v := (ef ((3 * k53) + k65))) (congrArg _ (nI_clamp (by omega))) dX4_goOnFrom_98 ?_
                    refine lv_iadd hx hb dX4_goOnFrom_99 ?_
                    refine g_callSNU (nA := 1) (host := RX7) hC V hl.1 (c_bounded l D T ((gc_1 k65) + (ef ((3 * k53) + k65)))) w_489 (List.mem_of_getElem? (i := 11) rfl) w_2 w_488 (by decide +kernel) rfl ⟨(Nat.le_of_ble_eq_true rfl), (Nat.le_of_ble_eq_true rfl)⟩ [] rfl rfl (Nat.le_of_ble_eq_true rfl) dX4_goOnFrom_100 ⟨(Nat.le_of_ble_eq_true rfl), (Nat.le_of_ble_eq_true rfl)⟩ rfl (fun r w1 H locs hQ V => ?_)
                    obtain ⟨z_20, rfl, rfl⟩ := hQ
                    have V : gW D T A s [(e0, .inr (4, [.ref e1, .ref e2, .int (nI mt), .ref e3, .ref e4, .ref e5, .ref e6])), (e1, .inl (T 1, 3001, .inr (.inl fa))), (e2, .inl (T 0, 8192, .inl fb)), (e3, .inl (T 0, 3, .inl gc_1)), (e4, .inl (T 0, 3, .inl gd_2)), (e5, .inl (T 0, 3, .inl fe2)), (e6, .inl (T 0, 24, .inl ef)), (a0, .inr (5, [.int (nI an), .int am, .int al, .int ao, .int au, .ref a1, .ref a2, .ref a3, .ref a4, .ref a5, .ref a6, .ref a7, .ref a8, .ref a9, .ref a10])), (a4, .inl (T 0, 10, .inl af4)), (a5, .inl (T 0, 10, .inl af5)), (a6, .inl (T 0, 10, .inl af6))] H locs := V _ [] rfl rfl rfl (by decide +kernel) rfl
                    show W p l e _ s m args below meth c H locs _ _ _ (F0 m 103 ls [.int z_20, .int (nI k65), .ref e5])
                    refine g_iast hC V 5 rfl (vp_in_nI (by omega) (by omega)) (f' := (upd fe2 k65 z_20)) (by rw [nI_clamp (by omega)]) (ws' := [(e0, .inr (4, [.ref e1, .ref e2, .int (nI mt), .ref e3, .ref e4, .ref e5, .ref e6])), (e1, .inl (T 1, 3001, .inr (.inl fa))), (e2, .inl (T 0, 8192, .inl fb)), (e3, .inl (T 0, 3, .inl gc_1)), (e4, .inl (T 0, 3, .inl gd_2)), (e5, .inl (T 0, 3, .inl (upd fe2 k65 z_20))), (e6, .inl (T 0, 24, .inl ef)), (a0, .inr (5, [.int (nI an), .int am, .int al, .int ao, .int au, .ref a1, .ref a2, .ref a3, .ref a4, .ref a5, .ref a6, .ref a7, .ref a8, .ref a9, .ref a10])), (a4, .inl (T 0, 10, .inl af4)), (a5, .inl (T 0, 10, .inl af5)), (a6, .inl (T 0, 10, .inl af6))]) rfl dX4_goOnFrom_103 (fun H locs V => ?_)
                    refine lv_iinc (v := (nI (k65 + 1))) (lv' := [(6, .int (nI (k65 + 1))), (5, .int (nI k53)), (4, .int (nI ab)), (0, .ref e0), (1, .ref a0), (2, .long v)]) hx hb dX4_goOnFrom_104 hl (k := 0) rfl (nI_1 _) (by decide) rfl (fun ls hl => ?_)
                    refine lv_goto (tgt := 65) hx hb dX4_goOnFrom_107 (by decide) ?_
                    exact ih_65 (k65 + 1) (upd fe2 k65 z_20) (by omega) (by omega) _ _ _ V (lv_sub hl [0, 1, 2, 3, 4, 5] rfl)
              exact L_7 _ 0 fe (by omega) (Nat.lt_succ_self _) _ _ _ V (lv_sub hl [0, 1, 2, 3, 4, 5] rfl)
        exact L_5 _ 0 em ea eb ee (by omega) (by omega) (by omega) h_sl (Nat.lt_succ_self _) _ _ _ V (lv_sub hl [0, 1, 2, 3, 4] rfl)
      · skip
        have c_4 := b_nle (by omega) (by omega) c_4
        refine lv_iload hx hb dX4_goOnFrom_21 (lv_at hl 1 rfl) ?_
        refine lv_aload_n hx hb dX4_goOnFrom_23 rfl (lv_at hl 2 rfl) ?_
        refine lv_aload_n hx hb dX4_goOnFrom_24 rfl (lv_at hl 3 rfl) ?_
        refine lv_iload hx hb dX4_goOnFrom_25 (lv_at hl 0 rfl) ?_
        refine g_callVU (nA := 2) hC V hl.1 (e_canStrike l D T e0 a0 k12 e1 e2 em e3 e4 e5 e6 gc_1 gd_2 an am al ao au a1 a2 a3 a4 a5 a6 a7 a8 a9 a10 af4 af5 af6 (by first | assumption | omega)) w_767 w_769 w_s28 w_18 w_770 (by decide +kernel) rfl ⟨(Nat.le_of_ble_eq_true rfl), (Nat.le_of_ble_eq_true rfl)⟩ 0 (ci := 4) rfl rfl [0, 3, 4, 7, 8, 9, 10] rfl rfl (Nat.le_of_ble_eq_true rfl) dX4_goOnFrom_27 ⟨(Nat.le_of_ble_eq_true rfl), (Nat.le_of_ble_eq_true rfl)⟩ rfl (fun r w1 H locs hQ V => ?_)
        rcases hQ with ⟨rfl, rfl⟩ | ⟨rfl, rfl⟩
        · have V : gW D T A s [(e0, .inr (4, [.ref e1, .ref e2, .int (nI em), .ref e3, .ref e4, .ref e5, .ref e6])), (e1, .inl (T 1, 3001, .inr (.inl ea))), (e2, .inl (T 0, 8192, .inl eb)), (e3, .inl (T 0, 3, .inl gc_1)), (e4, .inl (T 0, 3, .inl gd_2)), (e5, .inl (T 0, 3, .inl ee)), (e6, .inl (T 0, 24, .inl ef)), (a0, .inr (5, [.int (nI an), .int am, .int al, .int ao, .int au, .ref a1, .ref a2, .ref a3, .ref a4, .ref a5, .ref a6, .ref a7, .ref a8, .ref a9, .ref a10])), (a4, .inl (T 0, 10, .inl af4)), (a5, .inl (T 0, 10, .inl af5)), (a6, .inl (T 0, 10, .inl af6))] H locs := V _ [0, 2, 0, 2, 0, 0, 0] rfl rfl rfl (by decide +kernel) rfl
          show W p l e _ s m args below meth c H locs _ _ _ (F0 m 30 ls [.int (nI 1), .int (nI ab)])
          refine lv_if_eq (tgt := 40) hx hb dX4_goOnFrom_30 (by decide) (fun c => absurd (show (nI 1) = 0 from c) (by decide +kernel)) (fun _ => ?_)
          refine lv_iconst (v := (nI 1)) hx hb dX4_goOnFrom_33 (by decide +kernel) ?_
          refine lv_iload hx hb dX4_goOnFrom_34 (lv_at hl 0 rfl) ?_
          refine lv_ishl hx hb dX4_goOnFrom_36 ?_
          refine g_vi (y := (nI (2 ^ k12))) (shl_pow (by omega)) ?_
          refine lv_goto (tgt := 41) hx hb dX4_goOnFrom_37 (by decide) ?_
          refine lv_ior hx hb dX4_goOnFrom_41 ?_
          obtain ⟨j_21, hj_21, ej_21⟩ := or8 (a := ab) (b := 2 ^ k12) (by omega) (by first | omega | exact pw_lt3 (by omega))
          refine g_vi (y := nI j_21) ej_21 ?_
          refine lv_istore (lv' := [(4, .int (nI j_21)), (5, .int (nI k12)), (0, .ref e0), (1, .ref a0), (2, .long v)]) hx hb dX4_goOnFrom_42 hl (by decide) rfl (fun ls hl => ?_)
          refine lv_iinc (v := (nI (k12 + 1))) (lv' := [(5, .int (nI (k12 + 1))), (4, .int (nI j_21)), (0, .ref e0), (1, .ref a0), (2, .long v)]) hx hb dX4_goOnFrom_44 hl (k := 1) rfl (nI_1 _) (by decide) rfl (fun ls hl => ?_)
          refine lv_goto (tgt := 12) hx hb dX4_goOnFrom_47 (by decide) ?_
          exact ih_12 (k12 + 1) j_21 (by omega) (by assumption) (by omega) _ _ _ V (lv_sub hl [0, 1, 2, 3, 4] rfl)
        · have V : gW D T A s [(e0, .inr (4, [.ref e1, .ref e2, .int (nI em), .ref e3, .ref e4, .ref e5, .ref e6])), (e1, .inl (T 1, 3001, .inr (.inl ea))), (e2, .inl (T 0, 8192, .inl eb)), (e3, .inl (T 0, 3, .inl gc_1)), (e4, .inl (T 0, 3, .inl gd_2)), (e5, .inl (T 0, 3, .inl ee)), (e6, .inl (T 0, 24, .inl ef)), (a0, .inr (5, [.int (nI an), .int am, .int al, .int ao, .int au, .ref a1, .ref a2, .ref a3, .ref a4, .ref a5, .ref a6, .ref a7, .ref a8, .ref a9, .ref a10])), (a4, .inl (T 0, 10, .inl af4)), (a5, .inl (T 0, 10, .inl af5)), (a6, .inl (T 0, 10, .inl af6))] H locs := V _ [0, 2, 0, 2, 0, 0, 0] rfl rfl rfl (by decide +kernel) rfl
          show W p l e _ s m args below meth c H locs _ _ _ (F0 m 30 ls [.int (nI 0), .int (nI ab)])
          refine lv_if_eq (tgt := 40) hx hb dX4_goOnFrom_30 (by decide) (fun _ => ?_) (fun c => absurd (show (nI 0) = 0 by decide +kernel) c)
          refine lv_iconst (v := (nI 0)) hx hb dX4_goOnFrom_40 (by decide +kernel) ?_
          refine lv_ior hx hb dX4_goOnFrom_41 ?_
          obtain ⟨j_22, hj_22, ej_22⟩ := or8 (a := ab) (b := 0) (by omega) (by first | omega | exact pw_lt3 (by omega))
          refine g_vi (y := nI j_22) ej_22 ?_
          refine lv_istore (lv' := [(4, .int (nI j_22)), (5, .int (nI k12)), (0, .ref e0), (1, .ref a0), (2, .long v)]) hx hb dX4_goOnFrom_42 hl (by decide) rfl (fun ls hl => ?_)
          refine lv_iinc (v := (nI (k12 + 1))) (lv' := [(5, .int (nI (k12 + 1))), (4, .int (nI j_22)), (0, .ref e0), (1, .ref a0), (2, .long v)]) hx hb dX4_goOnFrom_44 hl (k := 1) rfl (nI_1 _) (by decide) rfl (fun ls hl => ?_)
          refine lv_goto (tgt := 12) hx hb dX4_goOnFrom_47 (by decide) ?_
          exact ih_12 (k12 + 1) j_22 (by omega) (by assumption) (by omega) _ _ _ V (lv_sub hl [0, 1, 2, 3, 4] rfl)
  exact L_3 _ 0 0 (by omega) (by omega) (Nat.lt_succ_self _) _ _ _ V (lv_sub hl [0, 1, 2, 3, 4] rfl)

def q_e_fill (T : Nat → ClassId) (a : Nat) (x : Int32) (f0 : Nat → Int32) : Option Value → va_W → Prop := fun rr ww => (∃ (g : Nat → Int32), rr = none ∧ ww = [(a, .inl (T 0, 8192, .inl g))] ∧ (∀ i, i < 8192 → g i = x))
set_option maxHeartbeats 4000000 in
set_option maxRecDepth 100000 in
theorem e_fill (l : Launch) (D : va_G) (T : Nat → ClassId) (a : Nat) (x : Int32) (f0 : Nat → Int32) : Ct l yJ7_fill_53178 cJ7_fill_53178 4 none 0 0 0 D T [.ref a, .int x] [(a, .inl (T 0, 8192, .inl f0))] (q_e_fill T a x f0) := by
  refine Ct.of (cc := cJ7_fill_53178) (maxL := 4) (ret := none) (by decide) (Nat.le_of_ble_eq_true rfl) ?_
  intro p e s m args below meth c A ls hC hnm V hl
  obtain ⟨hx, hb, hr, hml, hown, hts, hlocks⟩ := id hC
  generalize hH : s.heap = H at V ⊢
  clear hH
  have hl : lv_has ls 4 [(0, .ref a), (1, .int x)] := hl
  generalize hlo : ([] : List Loc) = locs at V ⊢
  clear hlo
  refine lv_iconst (v := (nI 0)) hx hb dJ7_fill_53178_0 (by decide +kernel) ?_
  refine lv_istore_n (lv' := [(2, .int (nI 0)), (0, .ref a), (1, .int x)]) hx hb dJ7_fill_53178_1 rfl hl (by decide) rfl (fun ls hl => ?_)
  refine lv_aload_n hx hb dJ7_fill_53178_2 rfl (lv_at hl 1 rfl) ?_
  refine g_alen hC V 0 0 rfl rfl dJ7_fill_53178_3 ?_
  refine lv_istore_n (lv' := [(3, .int (nI 8192)), (2, .int (nI 0)), (0, .ref a), (1, .int x)]) hx hb dJ7_fill_53178_4 rfl hl (by decide) rfl (fun ls hl => ?_)
  have L_1 : ∀ (fu : Nat) (k : Nat) (f : Nat → Int32), k ≤ 8192 → (∀ i, i < k → f i = x) → 8192 - k < fu → ∀ (H : Heap) (locs : List Loc) (ls : Array Slot), gW D T A s [(a, .inl (T 0, 8192, .inl f))] H locs → lv_has ls 4 [(3, .int (nI 8192)), (2, .int (nI k)), (0, .ref a), (1, .int x)] → W p l e (rmD 0 0 0) s m args below meth c H locs 0 0 (MQ below (gQ D A (q_e_fill T a x f0)) args s 0 0 A) (F0 m 5 ls []) := by
    intro fu_5
    induction fu_5 with
    | zero => intro k f hk hf hmu; exact absurd hmu (Nat.not_lt_zero _)
    | succ fu_5 ih_5 =>
      intro k f hk hf hmu_5 H locs ls V hl
      refine lv_iload_n hx hb dJ7_fill_53178_5 rfl (lv_at hl 1 rfl) ?_
      refine lv_iload_n hx hb dJ7_fill_53178_6 rfl (lv_at hl 0 rfl) ?_
      refine lv_icmp_ge (tgt := 20) hx hb dJ7_fill_53178_7 (by decide) (fun c_2 => ?_) (fun c_2 => ?_)
      · skip
        have c_2 := b_le (by omega) (by omega) c_2
        exact g_vret (Qr := (q_e_fill T a x f0)) hC V ⟨(Nat.le_of_ble_eq_true rfl), (Nat.le_of_ble_eq_true rfl)⟩ ⟨f, rfl, rfl, (fun i h => hf i (by omega))⟩ dJ7_fill_53178_20
      · skip
        have c_2 := b_nle (by omega) (by omega) c_2
        refine lv_aload_n hx hb dJ7_fill_53178_10 rfl (lv_at hl 2 rfl) ?_
        refine lv_iload_n hx hb dJ7_fill_53178_11 rfl (lv_at hl 1 rfl) ?_
        refine lv_iload_n hx hb dJ7_fill_53178_12 rfl (lv_at hl 3 rfl) ?_
        refine g_iast hC V 0 rfl (vp_in_nI (by omega) (by omega)) (f' := (upd f k x)) (by rw [nI_clamp (by omega)]) (ws' := [(a, .inl (T 0, 8192, .inl (upd f k x)))]) rfl dJ7_fill_53178_13 (fun H locs V => ?_)
        refine lv_iinc (v := (nI (k + 1))) (lv' := [(2, .int (nI (k + 1))), (3, .int (nI 8192)), (0, .ref a), (1, .int x)]) hx hb dJ7_fill_53178_14 hl (k := 1) rfl (nI_1 _) (by decide) rfl (fun ls hl => ?_)
        refine lv_goto (tgt := 5) hx hb dJ7_fill_53178_17 (by decide) ?_
        exact ih_5 (k + 1) (upd f k x) (by omega) (up_one (p := fun i y => y = x) hf rfl) (by omega) _ _ _ V (lv_sub hl [1, 0, 2, 3] rfl)
  exact L_1 _ 0 f0 (by omega) (fun i h => absurd h (Nat.not_lt_zero _)) (Nat.lt_succ_self _) _ _ _ V (lv_sub hl [0, 1, 2, 3] rfl)

def q_e_minutes (T : Nat → ClassId) (e0 : Nat) (a0 : Nat) (e1 : Nat) (e2 : Nat) (em : Int32) (e3 : Nat) (e4 : Nat) (e5 : Nat) (e6 : Nat) (ea : Nat → Int64) (eb : Nat → Int32) (ec : Nat → Int32) (ed : Nat → Int32) (ee : Nat → Int32) (ef : Nat → Int32) (an : Nat) (am : Int32) (al : Int32) (ao : Int32) (au : Int32) (a1 : Nat) (a2 : Nat) (a3 : Nat) (a4 : Nat) (a5 : Nat) (a6 : Nat) (a7 : Nat) (a8 : Nat) (a9 : Nat) (a10 : Nat) (af1 : Nat → Int32) (af2 : Nat → Int32) (af3 : Nat → Int32) (af4 : Nat → Int32) (af5 : Nat → Int32) (af6 : Nat → Int32) (af7 : Nat → Int32) (af9 : Nat → Int32) : Option Value → va_W → Prop := fun rr ww => (∃ (z : Int32) (em2 : Nat) (g1 : Nat → Int64) (g2 : Nat → Int32) (gc : Nat → Int32) (gd : Nat → Int32) (ge : Nat → Int32) (gf : Nat → Int32), rr = some (.int z) ∧ ww = [(e0, .inr (4, [.ref e1, .ref e2, .int (nI em2), .ref e3, .ref e4, .ref e5, .ref e6])), (e1, .inl (T 1, 3001, .inr (.inl g1))), (e2, .inl (T 0, 8192, .inl g2)), (e3, .inl (T 0, 3, .inl gc)), (e4, .inl (T 0, 3, .inl gd)), (e5, .inl (T 0, 3, .inl ge)), (e6, .inl (T 0, 24, .inl gf)), (a0, .inr (5, [.int (nI an), .int am, .int al, .int ao, .int au, .ref a1, .ref a2, .ref a3, .ref a4, .ref a5, .ref a6, .ref a7, .ref a8, .ref a9, .ref a10])), (a1, .inl (T 0, 10, .inl af1)), (a2, .inl (T 0, 10, .inl af2)), (a3, .inl (T 0, 10, .inl af3)), (a4, .inl (T 0, 10, .inl af4)), (a5, .inl (T 0, 10, .inl af5)), (a6, .inl (T 0, 10, .inl af6)), (a7, .inl (T 0, 10, .inl af7)), (a9, .inl (T 0, 10, .inl af9))] ∧ em2 ≤ 3001)
set_option maxHeartbeats 4000000 in
set_option maxRecDepth 100000 in
theorem e_minutes (l : Launch) (D : va_G) (T : Nat → ClassId) (e0 : Nat) (a0 : Nat) (e1 : Nat) (e2 : Nat) (em : Int32) (e3 : Nat) (e4 : Nat) (e5 : Nat) (e6 : Nat) (ea : Nat → Int64) (eb : Nat → Int32) (ec : Nat → Int32) (ed : Nat → Int32) (ee : Nat → Int32) (ef : Nat → Int32) (an : Nat) (am : Int32) (al : Int32) (ao : Int32) (au : Int32) (a1 : Nat) (a2 : Nat) (a3 : Nat) (a4 : Nat) (a5 : Nat) (a6 : Nat) (a7 : Nat) (a8 : Nat) (a9 : Nat) (a10 : Nat) (af1 : Nat → Int32) (af2 : Nat → Int32) (af3 : Nat → Int32) (af4 : Nat → Int32) (af5 : Nat → Int32) (af6 : Nat → Int32) (af7 : Nat → Int32) (af9 : Nat → Int32) (h_n : an ≤ 3) : Ct l yX4_minutesToEnd cX4_minutesToEnd 6 (some .int) 3 0 0 D T [.ref e0, .ref a0] [(e0, .inr (4, [.ref e1, .ref e2, .int em, .ref e3, .ref e4, .ref e5, .ref e6])), (e1, .inl (T 1, 3001, .inr (.inl ea))), (e2, .inl (T 0, 8192, .inl eb)), (e3, .inl (T 0, 3, .inl ec)), (e4, .inl (T 0, 3, .inl ed)), (e5, .inl (T 0, 3, .inl ee)), (e6, .inl (T 0, 24, .inl ef)), (a0, .inr (5, [.int (nI an), .int am, .int al, .int ao, .int au, .ref a1, .ref a2, .ref a3, .ref a4, .ref a5, .ref a6, .ref a7, .ref a8, .ref a9, .ref a10])), (a1, .inl (T 0, 10, .inl af1)), (a2, .inl (T 0, 10, .inl af2)), (a3, .inl (T 0, 10, .inl af3)), (a4, .inl (T 0, 10, .inl af4)), (a5, .inl (T 0, 10, .inl af5)), (a6, .inl (T 0, 10, .inl af6)), (a7, .inl (T 0, 10, .inl af7)), (a9, .inl (T 0, 10, .inl af9))] (q_e_minutes T e0 a0 e1 e2 em e3 e4 e5 e6 ea eb ec ed ee ef an am al ao au a1 a2 a3 a4 a5 a6 a7 a8 a9 a10 af1 af2 af3 af4 af5 af6 af7 af9) := by
  refine Ct.of (cc := cX4_minutesToEnd) (maxL := 6) (ret := (some .int)) (by decide) (Nat.le_of_ble_eq_true rfl) ?_
  intro p e s m args below meth c A ls hC hnm V hl
  obtain ⟨hx, hb, hr, hml, hown, hts, hlocks⟩ := id hC
  generalize hH : s.heap = H at V ⊢
  clear hH
  have hl : lv_has ls 6 [(0, .ref e0), (1, .ref a0)] := hl
  generalize hlo : ([] : List Loc) = locs at V ⊢
  clear hlo
  refine lv_aload_n hx hb dX4_minutesToEnd_0 rfl (lv_at hl 0 rfl) ?_
  refine g_get hC V (ci := 4) uwX4 0 rfl rfl 1 (by decide) w_714 rfl rfl dX4_minutesToEnd_1 ?_
  refine lv_iconst (v := (nI 0)) hx hb dX4_minutesToEnd_4 (by decide +kernel) ?_
  refine g_callSU (nA := 2) hC V hl.1 (e_fill l D T e2 (nI 0) eb) w_739 w_307 w_11 w_308 (by decide +kernel) rfl ⟨(Nat.le_of_ble_eq_true rfl), (Nat.le_of_ble_eq_true rfl)⟩ [2] rfl rfl (Nat.le_of_ble_eq_true rfl) dX4_minutesToEnd_5 ⟨(Nat.le_of_ble_eq_true rfl), (Nat.le_of_ble_eq_true rfl)⟩ rfl (fun r w1 H locs hQ V => ?_)
  obtain ⟨g_1, rfl, rfl, f_1⟩ := hQ
  have V : gW D T A s [(e0, .inr (4, [.ref e1, .ref e2, .int em, .ref e3, .ref e4, .ref e5, .ref e6])), (e1, .inl (T 1, 3001, .inr (.inl ea))), (e2, .inl (T 0, 8192, .inl g_1)), (e3, .inl (T 0, 3, .inl ec)), (e4, .inl (T 0, 3, .inl ed)), (e5, .inl (T 0, 3, .inl ee)), (e6, .inl (T 0, 24, .inl ef)), (a0, .inr (5, [.int (nI an), .int am, .int al, .int ao, .int au, .ref a1, .ref a2, .ref a3, .ref a4, .ref a5, .ref a6, .ref a7, .ref a8, .ref a9, .ref a10])), (a1, .inl (T 0, 10, .inl af1)), (a2, .inl (T 0, 10, .inl af2)), (a3, .inl (T 0, 10, .inl af3)), (a4, .inl (T 0, 10, .inl af4)), (a5, .inl (T 0, 10, .inl af5)), (a6, .inl (T 0, 10, .inl af6)), (a7, .inl (T 0, 10, .inl af7)), (a9, .inl (T 0, 10, .inl af9))] H locs := V _ [2] rfl rfl rfl (by decide +kernel) rfl
  show W p l e _ s m args below meth c H locs _ _ _ (F0 m 8 ls [])
  have hz : ∀ i, i < 8192 → bd (g_1 i) (0 + 1) := fun i h => by rw [f_1 i h]; exact bd_nI (by decide)
  refine lv_aload_n hx hb dX4_minutesToEnd_8 rfl (lv_at hl 0 rfl) ?_
  refine lv_iconst (v := (nI 0)) hx hb dX4_minutesToEnd_9 (by decide +kernel) ?_
  refine g_put hC V (ci := 4) uwX4 tyX4 tyX4_ok nmX4 0 rfl rfl 2 (by decide) w_715 rfl rfl rfl rfl (Nat.le_of_ble_eq_true rfl) (ws' := [(e0, .inr (4, [.ref e1, .ref e2, .int (nI 0), .ref e3, .ref e4, .ref e5, .ref e6])), (e1, .inl (T 1, 3001, .inr (.inl ea))), (e2, .inl (T 0, 8192, .inl g_1)), (e3, .inl (T 0, 3, .inl ec)), (e4, .inl (T 0, 3, .inl ed)), (e5, .inl (T 0, 3, .inl ee)), (e6, .inl (T 0, 24, .inl ef)), (a0, .inr (5, [.int (nI an), .int am, .int al, .int ao, .int au, .ref a1, .ref a2, .ref a3, .ref a4, .ref a5, .ref a6, .ref a7, .ref a8, .ref a9, .ref a10])), (a1, .inl (T 0, 10, .inl af1)), (a2, .inl (T 0, 10, .inl af2)), (a3, .inl (T 0, 10, .inl af3)), (a4, .inl (T 0, 10, .inl af4)), (a5, .inl (T 0, 10, .inl af5)), (a6, .inl (T 0, 10, .inl af6)), (a7, .inl (T 0, 10, .inl af7)), (a9, .inl (T 0, 10, .inl af9))]) rfl dX4_minutesToEnd_10 (fun H locs V => ?_)
  refine lv_aload_n hx hb dX4_minutesToEnd_13 rfl (lv_at hl 0 rfl) ?_
  refine lv_aload_n hx hb dX4_minutesToEnd_14 rfl (lv_at hl 1 rfl) ?_
  refine g_callVU (nA := 1) hC V hl.1 (e_weigh l D T e0 a0 e1 e2 0 e3 e4 e5 e6 ef an am al ao au a1 a2 a3 a4 a5 a6 a7 a8 a9 a10 af1 af2 af9 (by first | assumption | omega)) w_740 w_742 w_s23 w_18 w_743 (by decide +kernel) rfl ⟨(Nat.le_of_ble_eq_true rfl), (Nat.le_of_ble_eq_true rfl)⟩ 0 (ci := 4) rfl rfl [0, 6, 7, 8, 9, 15] rfl rfl (Nat.le_of_ble_eq_true rfl) dX4_minutesToEnd_15 ⟨(Nat.le_of_ble_eq_true rfl), (Nat.le_of_ble_eq_true rfl)⟩ rfl (fun r w1 H locs hQ V => ?_)
  obtain ⟨g_2, rfl, rfl⟩ := hQ
  have V : gW D T A s [(e0, .inr (4, [.ref e1, .ref e2, .int (nI 0), .ref e3, .ref e4, .ref e5, .ref e6])), (e1, .inl (T 1, 3001, .inr (.inl ea))), (e2, .inl (T 0, 8192, .inl g_1)), (e3, .inl (T 0, 3, .inl ec)), (e4, .inl (T 0, 3, .inl ed)), (e5, .inl (T 0, 3, .inl ee)), (e6, .inl (T 0, 24, .inl g_2)), (a0, .inr (5, [.int (nI an), .int am, .int al, .int ao, .int au, .ref a1, .ref a2, .ref a3, .ref a4, .ref a5, .ref a6, .ref a7, .ref a8, .ref a9, .ref a10])), (a1, .inl (T 0, 10, .inl af1)), (a2, .inl (T 0, 10, .inl af2)), (a3, .inl (T 0, 10, .inl af3)), (a4, .inl (T 0, 10, .inl af4)), (a5, .inl (T 0, 10, .inl af5)), (a6, .inl (T 0, 10, .inl af6)), (a7, .inl (T 0, 10, .inl af7)), (a9, .inl (T 0, 10, .inl af9))] H locs := V _ [0, 5, 0, 0, 0, 5] rfl rfl rfl (by decide +kernel) rfl
  show W p l e _ s m args below meth c H locs _ _ _ (F0 m 18 ls [])
  refine lv_aload_n hx hb dX4_minutesToEnd_18 rfl (lv_at hl 0 rfl) ?_
  refine lv_aload_n hx hb dX4_minutesToEnd_19 rfl (lv_at hl 1 rfl) ?_
  refine g_callVU (nA := 1) hC V hl.1 (e_meetPresent l D T e0 a0 e1 e2 0 e3 e4 e5 e6 ea g_1 an am al ao au a1 a2 a3 a4 a5 a6 a7 a8 a9 a10 af3 af6 af7 (by first | assumption | omega) (by first | assumption | omega) (by first | assumption | omega)) w_746 w_748 w_s24 w_18 w_749 (by decide +kernel) rfl ⟨(Nat.le_of_ble_eq_true rfl), (Nat.le_of_ble_eq_true rfl)⟩ 0 (ci := 4) rfl rfl [0, 1, 2, 7, 10, 13, 14] rfl rfl (Nat.le_of_ble_eq_true rfl) dX4_minutesToEnd_20 ⟨(Nat.le_of_ble_eq_true rfl), (Nat.le_of_ble_eq_true rfl)⟩ rfl (fun r w1 H locs hQ V => ?_)
  obtain ⟨em2_3, g1_4, g2_5, rfl, rfl, f_6, f_7, f_8⟩ := hQ
  have V : gW D T A s [(e0, .inr (4, [.ref e1, .ref e2, .int (nI em2_3), .ref e3, .ref e4, .ref e5, .ref e6])), (e1, .inl (T 1, 3001, .inr (.inl g1_4))), (e2, .inl (T 0, 8192, .inl g2_5)), (e3, .inl (T 0, 3, .inl ec)), (e4, .inl (T 0, 3, .inl ed)), (e5, .inl (T 0, 3, .inl ee)), (e6, .inl (T 0, 24, .inl g_2)), (a0, .inr (5, [.int (nI an), .int am, .int al, .int ao, .int au, .ref a1, .ref a2, .ref a3, .ref a4, .ref a5, .ref a6, .ref a7, .ref a8, .ref a9, .ref a10])), (a1, .inl (T 0, 10, .inl af1)), (a2, .inl (T 0, 10, .inl af2)), (a3, .inl (T 0, 10, .inl af3)), (a4, .inl (T 0, 10, .inl af4)), (a5, .inl (T 0, 10, .inl af5)), (a6, .inl (T 0, 10, .inl af6)), (a7, .inl (T 0, 10, .inl af7)), (a9, .inl (T 0, 10, .inl af9))] H locs := V _ [0, 0, 0, 4, 2, 2, 0] rfl rfl rfl (by decide +kernel) rfl
  show W p l e _ s m args below meth c H locs _ _ _ (F0 m 23 ls [])
  refine lv_iconst (v := (nI 0)) hx hb dX4_minutesToEnd_23 (by decide +kernel) ?_
  refine lv_istore_n (lv' := [(2, .int (nI 0)), (0, .ref e0), (1, .ref a0)]) hx hb dX4_minutesToEnd_24 rfl hl (by decide) rfl (fun ls hl => ?_)
  refine lv_iconst (v := (nI 1)) hx hb dX4_minutesToEnd_25 (by decide +kernel) ?_
  refine lv_istore_n (lv' := [(3, .int (nI 1)), (2, .int (nI 0)), (0, .ref e0), (1, .ref a0)]) hx hb dX4_minutesToEnd_26 rfl hl (by decide) rfl (fun ls hl => ?_)
  have L_9 : ∀ (fu : Nat) (kk : Nat) (fst : Nat) (mt : Nat) (fa : Nat → Int64) (fb : Nat → Int32) (fc : Nat → Int32) (fd : Nat → Int32) (fe : Nat → Int32), kk ≤ 3002 → fst ≤ mt → mt ≤ 3001 → (∀ i, i < 8192 → bd (fb i) (mt + 1)) → 3002 - kk < fu → ∀ (H : Heap) (locs : List Loc) (ls : Array Slot), gW D T A s [(e0, .inr (4, [.ref e1, .ref e2, .int (nI mt), .ref e3, .ref e4, .ref e5, .ref e6])), (e1, .inl (T 1, 3001, .inr (.inl fa))), (e2, .inl (T 0, 8192, .inl fb)), (e3, .inl (T 0, 3, .inl fc)), (e4, .inl (T 0, 3, .inl fd)), (e5, .inl (T 0, 3, .inl fe)), (e6, .inl (T 0, 24, .inl g_2)), (a0, .inr (5, [.int (nI an), .int am, .int al, .int ao, .int au, .ref a1, .ref a2, .ref a3, .ref a4, .ref a5, .ref a6, .ref a7, .ref a8, .ref a9, .ref a10])), (a1, .inl (T 0, 10, .inl af1)), (a2, .inl (T 0, 10, .inl af2)), (a3, .inl (T 0, 10, .inl af3)), (a4, .inl (T 0, 10, .inl af4)), (a5, .inl (T 0, 10, .inl af5)), (a6, .inl (T 0, 10, .inl af6)), (a7, .inl (T 0, 10, .inl af7)), (a9, .inl (T 0, 10, .inl af9))] H locs → lv_has ls 6 [(3, .int (nI kk)), (2, .int (nI fst)), (0, .ref e0), (1, .ref a0)] → W p l e (rmD 3 0 0) s m args below meth c H locs 0 0 (MQ below (gQ D A (q_e_minutes T e0 a0 e1 e2 em e3 e4 e5 e6 ea eb ec ed ee ef an am al ao au a1 a2 a3 a4 a5 a6 a7 a8 a9 a10 af1 af2 af3 af4 af5 af6 af7 af9)) args s 0 0 A) (F0 m 27 ls []) := by
    intro fu_27
    induction fu_27 with
    | zero => intro kk fst mt fa fb fc fd fe hkk hf1 hm2 hm3 hmu; exact absurd hmu (Nat.not_lt_zero _)
    | succ fu_27 ih_27 =>
      intro kk fst mt fa fb fc fd fe hkk hf1 hm2 hm3 hmu_27 H locs ls V hl
      refine lv_iload_n hx hb dX4_minutesToEnd_27 rfl (lv_at hl 0 rfl) ?_
      refine lv_sipush (v := (nI 3001)) hx hb dX4_minutesToEnd_28 (by decide +kernel) ?_
      refine lv_icmp_gt (tgt := 144) hx hb dX4_minutesToEnd_31 (by decide) (fun c_10 => ?_) (fun c_10 => ?_)
      · skip
        have c_10 := b_lt (by omega) (by omega) c_10
        refine lv_iconst (v := (-1)) hx hb dX4_minutesToEnd_144 (by decide +kernel) ?_
        exact g_iret (Qr := (q_e_minutes T e0 a0 e1 e2 em e3 e4 e5 e6 ea eb ec ed ee ef an am al ao au a1 a2 a3 a4 a5 a6 a7 a8 a9 a10 af1 af2 af3 af4 af5 af6 af7 af9)) hC V ⟨(Nat.le_of_ble_eq_true rfl), (Nat.le_of_ble_eq_true rfl)⟩ ⟨(-1), mt, fa, fb, fc, fd, fe, g_2, rfl, rfl, (by first | assumption | omega)⟩ dX4_minutesToEnd_145
      · skip
        have c_10 := b_nlt (by omega) (by omega) c_10
        refine lv_aload_n hx hb dX4_minutesToEnd_34 rfl (lv_at hl 2 rfl) ?_
        refine g_get hC V (ci := 4) uwX4 0 rfl rfl 2 (by decide) w_715 rfl rfl dX4_minutesToEnd_35 ?_
        refine lv_istore (lv' := [(4, .int (nI mt)), (3, .int (nI kk)), (2, .int (nI fst)), (0, .ref e0), (1, .ref a0)]) hx hb dX4_minutesToEnd_38 hl (by decide) rfl (fun ls hl => ?_)
        refine lv_iload_n hx hb dX4_minutesToEnd_40 rfl (lv_at hl 2 rfl) ?_
        refine lv_istore (lv' := [(5, .int (nI fst)), (4, .int (nI mt)), (3, .int (nI kk)), (2, .int (nI fst)), (0, .ref e0), (1, .ref a0)]) hx hb dX4_minutesToEnd_41 hl (by decide) rfl (fun ls hl => ?_)
        have L_11 : ∀ (fu : Nat) (ka : Nat) (fc2 : Nat → Int32) (fd2 : Nat → Int32), ka ≤ mt → mt - ka < fu → ∀ (H : Heap) (locs : List Loc) (ls : Array Slot), gW D T A s [(e0, .inr (4, [.ref e1, .ref e2, .int (nI mt), .ref e3, .ref e4, .ref e5, .ref e6])), (e1, .inl (T 1, 3001, .inr (.inl fa))), (e2, .inl (T 0, 8192, .inl fb)), (e3, .inl (T 0, 3, .inl fc2)), (e4, .inl (T 0, 3, .inl fd2)), (e5, .inl (T 0, 3, .inl fe)), (e6, .inl (T 0, 24, .inl g_2)), (a0, .inr (5, [.int (nI an), .int am, .int al, .int ao, .int au, .ref a1, .ref a2, .ref a3, .ref a4, .ref a5, .ref a6, .ref a7, .ref a8, .ref a9, .ref a10])), (a1, .inl (T 0, 10, .inl af1)), (a2, .inl (T 0, 10, .inl af2)), (a3, .inl (T 0, 10, .inl af3)), (a4, .inl (T 0, 10, .inl af4)), (a5, .inl (T 0, 10, .inl af5)), (a6, .inl (T 0, 10, .inl af6)), (a7, .inl (T 0, 10, .inl af7)), (a9, .inl (T 0, 10, .inl af9))] H locs → lv_has ls 6 [(5, .int (nI ka)), (4, .int (nI mt)), (3, .int (nI kk)), (2, .int (nI fst)), (0, .ref e0), (1, .ref a0)] → W p l e (rmD 3 0 0) s m args below meth c H locs 0 0 (MQ below (gQ D A (q_e_minutes T e0 a0 e1 e2 em e3 e4 e5 e6 ea eb ec ed ee ef an am al ao au a1 a2 a3 a4 a5 a6 a7 a8 a9 a10 af1 af2 af3 af4 af5 af6 af7 af9)) args s 0 0 A) (F0 m 43 ls []) := by
          intro fu_43
          induction fu_43 with
          | zero => intro ka fc2 fd2 hka hmu; exact absurd hmu (Nat.not_lt_zero _)
          | succ fu_43 ih_43 =>
            intro ka fc2 fd2 hka hmu_43 H locs ls V hl
            refine lv_iload hx hb dX4_minutesToEnd_43 (lv_at hl 0 rfl) ?_
            refine lv_iload hx hb dX4_minutesToEnd_45 (lv_at hl 1 rfl) ?_
            refine lv_icmp_ge (tgt := 73) hx hb dX4_minutesToEnd_47 (by decide) (fun c_12 => ?_) (fun c_12 => ?_)
            · skip
              have c_12 := b_le (by omega) (by omega) c_12
              refine lv_iload_n hx hb dX4_minutesToEnd_73 rfl (lv_at hl 3 rfl) ?_
              refine lv_istore (lv' := [(5, .int (nI fst)), (4, .int (nI mt)), (3, .int (nI kk)), (2, .int (nI fst)), (0, .ref e0), (1, .ref a0)]) hx hb dX4_minutesToEnd_74 hl (by decide) rfl (fun ls hl => ?_)
              have L_13 : ∀ (fu : Nat) (kb : Nat) (mu : Nat) (fa3 : Nat → Int64) (fb3 : Nat → Int32) (fc3 : Nat → Int32) (fd3 : Nat → Int32) (fe3 : Nat → Int32), kb ≤ mt → mt ≤ mu → mu ≤ 3001 → (∀ i, i < 8192 → bd (fb3 i) (mu + 1)) → mt - kb < fu → ∀ (H : Heap) (locs : List Loc) (ls : Array Slot), gW D T A s [(e0, .inr (4, [.ref e1, .ref e2, .int (nI mu), .ref e3, .ref e4, .ref e5, .ref e6])), (e1, .inl (T 1, 3001, .inr (.inl fa3))), (e2, .inl (T 0, 8192, .inl fb3)), (e3, .inl (T 0, 3, .inl fc3)), (e4, .inl (T 0, 3, .inl fd3)), (e5, .inl (T 0, 3, .inl fe3)), (e6, .inl (T 0, 24, .inl g_2)), (a0, .inr (5, [.int (nI an), .int am, .int al, .int ao, .int au, .ref a1, .ref a2, .ref a3, .ref a4, .ref a5, .ref a6, .ref a7, .ref a8, .ref a9, .ref a10])), (a1, .inl (T 0, 10, .inl af1)), (a2, .inl (T 0, 10, .inl af2)), (a3, .inl (T 0, 10, .inl af3)), (a4, .inl (T 0, 10, .inl af4)), (a5, .inl (T 0, 10, .inl af5)), (a6, .inl (T 0, 10, .inl af6)), (a7, .inl (T 0, 10, .inl af7)), (a9, .inl (T 0, 10, .inl af9))] H locs → lv_has ls 6 [(5, .int (nI kb)), (4, .int (nI mt)), (3, .int (nI kk)), (2, .int (nI fst)), (0, .ref e0), (1, .ref a0)] → W p l e (rmD 3 0 0) s m args below meth c H locs 0 0 (MQ below (gQ D A (q_e_minutes T e0 a0 e1 e2 em e3 e4 e5 e6 ea eb ec ed ee ef an am al ao au a1 a2 a3 a4 a5 a6 a7 a8 a9 a10 af1 af2 af3 af4 af5 af6 af7 af9)) args s 0 0 A) (F0 m 76 ls []) := by
                intro fu_76
                induction fu_76 with
                | zero => intro kb mu fa3 fb3 fc3 fd3 fe3 hkb hu1 hu2 hu3 hmu; exact absurd hmu (Nat.not_lt_zero _)
                | succ fu_76 ih_76 =>
                  intro kb mu fa3 fb3 fc3 fd3 fe3 hkb hu1 hu2 hu3 hmu_76 H locs ls V hl
                  refine lv_iload hx hb dX4_minutesToEnd_76 (lv_at hl 0 rfl) ?_
                  refine lv_iload hx hb dX4_minutesToEnd_78 (lv_at hl 1 rfl) ?_
                  refine lv_icmp_ge (tgt := 111) hx hb dX4_minutesToEnd_80 (by decide) (fun c_14 => ?_) (fun c_14 => ?_)
                  · skip
                    have c_14 := b_le (by omega) (by omega) c_14
                    refine lv_aload_n hx hb dX4_minutesToEnd_111 rfl (lv_at hl 4 rfl) ?_
                    refine g_get hC V (ci := 4) uwX4 0 rfl rfl 2 (by decide) w_715 rfl rfl dX4_minutesToEnd_112 ?_
                    refine lv_sipush (v := (nI 3000)) hx hb dX4_minutesToEnd_115 (by decide +kernel) ?_
                    refine lv_icmp_le (tgt := 124) hx hb dX4_minutesToEnd_118 (by decide) (fun c_15 => ?_) (fun c_15 => ?_)
                    · skip
                      have c_15 := b_le (by omega) (by omega) c_15
                      refine lv_aload_n hx hb dX4_minutesToEnd_124 rfl (lv_at hl 4 rfl) ?_
                      refine g_get hC V (ci := 4) uwX4 0 rfl rfl 2 (by decide) w_715 rfl rfl dX4_minutesToEnd_125 ?_
                      refine lv_iload hx hb dX4_minutesToEnd_128 (lv_at hl 1 rfl) ?_
                      refine lv_icmp_ne (tgt := 135) hx hb dX4_minutesToEnd_130 (by decide) (fun c_16 => ?_) (fun c_16 => ?_)
                      · skip
                        have c_16 := b_ne (by omega) (by omega) c_16
                        refine lv_iload hx hb dX4_minutesToEnd_135 (lv_at hl 1 rfl) ?_
                        refine lv_istore_n (lv' := [(2, .int (nI mt)), (5, .int (nI kb)), (4, .int (nI mt)), (3, .int (nI kk)), (0, .ref e0), (1, .ref a0)]) hx hb dX4_minutesToEnd_137 rfl hl (by decide) rfl (fun ls hl => ?_)
                        refine lv_iinc (v := (nI (kk + 1))) (lv' := [(3, .int (nI (kk + 1))), (2, .int (nI mt)), (5, .int (nI kb)), (4, .int (nI mt)), (0, .ref e0), (1, .ref a0)]) hx hb dX4_minutesToEnd_138 hl (k := 3) rfl (nI_1 _) (by decide) rfl (fun ls hl => ?_)
                        refine lv_goto (tgt := 27) hx hb dX4_minutesToEnd_141 (by decide) ?_
                        exact ih_27 (kk + 1) mt mu fa3 fb3 fc3 fd3 fe3 (by omega) (by omega) (by omega) (by assumption) (by omega) _ _ _ V (lv_sub hl [0, 1, 4, 5] rfl)
                      · skip
                        have c_16 := b_eq (by omega) (by omega) c_16
                        refine lv_iconst (v := (-1)) hx hb dX4_minutesToEnd_133 (by decide +kernel) ?_
                        exact g_iret (Qr := (q_e_minutes T e0 a0 e1 e2 em e3 e4 e5 e6 ea eb ec ed ee ef an am al ao au a1 a2 a3 a4 a5 a6 a7 a8 a9 a10 af1 af2 af3 af4 af5 af6 af7 af9)) hC V ⟨(Nat.le_of_ble_eq_true rfl), (Nat.le_of_ble_eq_true rfl)⟩ ⟨(-1), mu, fa3, fb3, fc3, fd3, fe3, g_2, rfl, rfl, (by first | assumption | omega)⟩ dX4_minutesToEnd_134
                    · skip
                      have c_15 := b_nle (by omega) (by omega) c_15
                      refine lv_bipush (v := (-4)) hx hb dX4_minutesToEnd_121 (by decide +kernel) ?_
                      exact g_iret (Qr := (q_e_minutes T e0 a0 e1 e2 em e3 e4 e5 e6 ea eb ec ed ee ef an am al ao au a1 a2 a3 a4 a5 a6 a7 a8 a9 a10 af1 af2 af3 af4 af5 af6 af7 af9)) hC V ⟨(Nat.le_of_ble_eq_true rfl), (Nat.le_of_ble_eq_true rfl)⟩ ⟨(-4), mu, fa3, fb3, fc3, fd3, fe3, g_2, rfl, rfl, (by first | assumption | omega)⟩ dX4_minutesToEnd_123
                  · skip
                    have c_14 := b_nle (by omega) (by omega) c_14
                    refine lv_aload_n hx hb dX4_minutesToEnd_83 rfl (lv_at hl 4 rfl) ?_
                    refine g_get hC V (ci := 4) uwX4 0 rfl rfl 2 (by decide) w_715 rfl rfl dX4_minutesToEnd_84 ?_
                    refine lv_sipush (v := (nI 3000)) hx hb dX4_minutesToEnd_87 (by decide +kernel) ?_
                    refine lv_icmp_gt (tgt := 111) hx hb dX4_minutesToEnd_90 (by decide) (fun c_17 => ?_) (fun c_17 => ?_)
                    · skip
                      have c_17 := b_lt (by omega) (by omega) c_17
                      refine lv_aload_n hx hb dX4_minutesToEnd_111 rfl (lv_at hl 4 rfl) ?_
                      refine g_get hC V (ci := 4) uwX4 0 rfl rfl 2 (by decide) w_715 rfl rfl dX4_minutesToEnd_112 ?_
                      refine lv_sipush (v := (nI 3000)) hx hb dX4_minutesToEnd_115 (by decide +kernel) ?_
                      refine lv_icmp_le (tgt := 124) hx hb dX4_minutesToEnd_118 (by decide) (fun c_18 => ?_) (fun c_18 => ?_)
                      · skip
                        have c_18 := b_le (by omega) (by omega) c_18
                        refine lv_aload_n hx hb dX4_minutesToEnd_124 rfl (lv_at hl 4 rfl) ?_
                        refine g_get hC V (ci := 4) uwX4 0 rfl rfl 2 (by decide) w_715 rfl rfl dX4_minutesToEnd_125 ?_
                        refine lv_iload hx hb dX4_minutesToEnd_128 (lv_at hl 1 rfl) ?_
                        refine lv_icmp_ne (tgt := 135) hx hb dX4_minutesToEnd_130 (by decide) (fun c_19 => ?_) (fun c_19 => ?_)
                        · skip
                          have c_19 := b_ne (by omega) (by omega) c_19
                          refine lv_iload hx hb dX4_minutesToEnd_135 (lv_at hl 1 rfl) ?_
                          refine lv_istore_n (lv' := [(2, .int (nI mt)), (5, .int (nI kb)), (4, .int (nI mt)), (3, .int (nI kk)), (0, .ref e0), (1, .ref a0)]) hx hb dX4_minutesToEnd_137 rfl hl (by decide) rfl (fun ls hl => ?_)
                          refine lv_iinc (v := (nI (kk + 1))) (lv' := [(3, .int (nI (kk + 1))), (2, .int (nI mt)), (5, .int (nI kb)), (4, .int (nI mt)), (0, .ref e0), (1, .ref a0)]) hx hb dX4_minutesToEnd_138 hl (k := 3) rfl (nI_1 _) (by decide) rfl (fun ls hl => ?_)
                          refine lv_goto (tgt := 27) hx hb dX4_minutesToEnd_141 (by decide) ?_
                          exact ih_27 (kk + 1) mt mu fa3 fb3 fc3 fd3 fe3 (by omega) (by omega) (by omega) (by assumption) (by omega) _ _ _ V (lv_sub hl [0, 1, 4, 5] rfl)
                        · skip
                          have c_19 := b_eq (by omega) (by omega) c_19
                          refine lv_iconst (v := (-1)) hx hb dX4_minutesToEnd_133 (by decide +kernel) ?_
                          exact g_iret (Qr := (q_e_minutes T e0 a0 e1 e2 em e3 e4 e5 e6 ea eb ec ed ee ef an am al ao au a1 a2 a3 a4 a5 a6 a7 a8 a9 a10 af1 af2 af3 af4 af5 af6 af7 af9)) hC V ⟨(Nat.le_of_ble_eq_true rfl), (Nat.le_of_ble_eq_true rfl)⟩ ⟨(-1), mu, fa3, fb3, fc3, fd3, fe3, g_2, rfl, rfl, (by first | assumption | omega)⟩ dX4_minutesToEnd_134
                      · skip
                        have c_18 := b_nle (by omega) (by omega) c_18
                        refine lv_bipush (v := (-4)) hx hb dX4_minutesToEnd_121 (by decide +kernel) ?_
                        exact g_iret (Qr := (q_e_minutes T e0 a0 e1 e2 em e3 e4 e5 e6 ea eb ec ed ee ef an am al ao au a1 a2 a3 a4 a5 a6 a7 a8 a9 a10 af1 af2 af3 af4 af5 af6 af7 af9)) hC V ⟨(Nat.le_of_ble_eq_true rfl), (Nat.le_of_ble_eq_true rfl)⟩ ⟨(-4), mu, fa3, fb3, fc3, fd3, fe3, g_2, rfl, rfl, (by first | assumption | omega)⟩ dX4_minutesToEnd_123
                    · skip
                      have c_17 := b_nlt (by omega) (by omega) c_17
                      refine lv_aload_n hx hb dX4_minutesToEnd_93 rfl (lv_at hl 4 rfl) ?_
                      refine lv_aload_n hx hb dX4_minutesToEnd_94 rfl (lv_at hl 5 rfl) ?_
                      refine lv_aload_n hx hb dX4_minutesToEnd_95 rfl (lv_at hl 4 rfl) ?_
                      refine g_get hC V (ci := 4) uwX4 0 rfl rfl 0 (by decide) w_713 rfl rfl dX4_minutesToEnd_96 ?_
                      refine lv_iload hx hb dX4_minutesToEnd_99 (lv_at hl 0 rfl) ?_
                      refine g_lald hC V 1 rfl (vp_in_nI (by omega) (by omega)) (v := (fa3 kb)) (congrArg _ (nI_clamp (by omega))) dX4_minutesToEnd_101 ?_
                      refine g_callVU (nA := 2) hC V hl.1 (e_goOn l D T e0 a0 (fa3 kb) e1 e2 mu e3 e4 e5 e6 fa3 fb3 fc3 fd3 fe3 g_2 an am al ao au a1 a2 a3 a4 a5 a6 a7 a8 a9 a10 af4 af5 af6 (by first | assumption | omega) (by first | assumption | omega) (by first | assumption | omega)) w_772 w_774 w_s29 w_18 w_775 (by decide +kernel) rfl ⟨(Nat.le_of_ble_eq_true rfl), (Nat.le_of_ble_eq_true rfl)⟩ 0 (ci := 4) rfl rfl [0, 1, 2, 3, 4, 5, 6, 7, 11, 12, 13] rfl rfl (Nat.le_of_ble_eq_true rfl) dX4_minutesToEnd_102 ⟨(Nat.le_of_ble_eq_true rfl), (Nat.le_of_ble_eq_true rfl)⟩ rfl (fun r w1 H locs hQ V => ?_)
                      obtain ⟨em2_20, g1_21, g2_22, gc_23, gd_24, ge_25, rfl, rfl, f_26, f_27, f_28⟩ := hQ
                      have V : gW D T A s [(e0, .inr (4, [.ref e1, .ref e2, .int (nI em2_20), .ref e3, .ref e4, .ref e5, .ref e6])), (e1, .inl (T 1, 3001, .inr (.inl g1_21))), (e2, .inl (T 0, 8192, .inl g2_22)), (e3, .inl (T 0, 3, .inl gc_23)), (e4, .inl (T 0, 3, .inl gd_24)), (e5, .inl (T 0, 3, .inl ge_25)), (e6, .inl (T 0, 24, .inl g_2)), (a0, .inr (5, [.int (nI an), .int am, .int al, .int ao, .int au, .ref a1, .ref a2, .ref a3, .ref a4, .ref a5, .ref a6, .ref a7, .ref a8, .ref a9, .ref a10])), (a1, .inl (T 0, 10, .inl af1)), (a2, .inl (T 0, 10, .inl af2)), (a3, .inl (T 0, 10, .inl af3)), (a4, .inl (T 0, 10, .inl af4)), (a5, .inl (T 0, 10, .inl af5)), (a6, .inl (T 0, 10, .inl af6)), (a7, .inl (T 0, 10, .inl af7)), (a9, .inl (T 0, 10, .inl af9))] H locs := V _ [0, 0, 0, 0, 0, 0, 0, 0, 3, 0, 0] rfl rfl rfl (by decide +kernel) rfl
                      show W p l e _ s m args below meth c H locs _ _ _ (F0 m 105 ls [])
                      refine lv_iinc (v := (nI (kb + 1))) (lv' := [(5, .int (nI (kb + 1))), (4, .int (nI mt)), (3, .int (nI kk)), (2, .int (nI fst)), (0, .ref e0), (1, .ref a0)]) hx hb dX4_minutesToEnd_105 hl (k := 0) rfl (nI_1 _) (by decide) rfl (fun ls hl => ?_)
                      refine lv_goto (tgt := 76) hx hb dX4_minutesToEnd_108 (by decide) ?_
                      exact ih_76 (kb + 1) em2_20 g1_21 g2_22 gc_23 gd_24 ge_25 (by omega) (by omega) (by omega) (by assumption) (by omega) _ _ _ V (lv_sub hl [0, 1, 2, 3, 4, 5] rfl)
              exact L_13 _ fst mt fa fb fc2 fd2 fe (by omega) (by omega) (by omega) (by assumption) (Nat.lt_succ_self _) _ _ _ V (lv_sub hl [0, 1, 2, 3, 4, 5] rfl)
            · skip
              have c_12 := b_nle (by omega) (by omega) c_12
              refine lv_aload_n hx hb dX4_minutesToEnd_50 rfl (lv_at hl 4 rfl) ?_
              refine lv_aload_n hx hb dX4_minutesToEnd_51 rfl (lv_at hl 5 rfl) ?_
              refine lv_aload_n hx hb dX4_minutesToEnd_52 rfl (lv_at hl 4 rfl) ?_
              refine g_get hC V (ci := 4) uwX4 0 rfl rfl 0 (by decide) w_713 rfl rfl dX4_minutesToEnd_53 ?_
              refine lv_iload hx hb dX4_minutesToEnd_56 (lv_at hl 0 rfl) ?_
              refine g_lald hC V 1 rfl (vp_in_nI (by omega) (by omega)) (v := (fa ka)) (congrArg _ (nI_clamp (by omega))) dX4_minutesToEnd_58 ?_
              refine g_callVU (nA := 2) hC V hl.1 (e_endsNext l D T e0 a0 (fa ka) e1 e2 mt e3 e4 e5 e6 fc2 fd2 an am al ao au a1 a2 a3 a4 a5 a6 a7 a8 a9 a10 af4 af5 af6 (by first | assumption | omega)) w_759 w_761 w_s26 w_18 w_762 (by decide +kernel) rfl ⟨(Nat.le_of_ble_eq_true rfl), (Nat.le_of_ble_eq_true rfl)⟩ 0 (ci := 4) rfl rfl [0, 3, 4, 7, 11, 12, 13] rfl rfl (Nat.le_of_ble_eq_true rfl) dX4_minutesToEnd_59 ⟨(Nat.le_of_ble_eq_true rfl), (Nat.le_of_ble_eq_true rfl)⟩ rfl (fun r w1 H locs hQ V => ?_)
              rcases hQ with ⟨gc_29, gd_30, rfl, rfl⟩ | ⟨gc_31, gd_32, rfl, rfl⟩
              · have V : gW D T A s [(e0, .inr (4, [.ref e1, .ref e2, .int (nI mt), .ref e3, .ref e4, .ref e5, .ref e6])), (e1, .inl (T 1, 3001, .inr (.inl fa))), (e2, .inl (T 0, 8192, .inl fb)), (e3, .inl (T 0, 3, .inl gc_29)), (e4, .inl (T 0, 3, .inl gd_30)), (e5, .inl (T 0, 3, .inl fe)), (e6, .inl (T 0, 24, .inl g_2)), (a0, .inr (5, [.int (nI an), .int am, .int al, .int ao, .int au, .ref a1, .ref a2, .ref a3, .ref a4, .ref a5, .ref a6, .ref a7, .ref a8, .ref a9, .ref a10])), (a1, .inl (T 0, 10, .inl af1)), (a2, .inl (T 0, 10, .inl af2)), (a3, .inl (T 0, 10, .inl af3)), (a4, .inl (T 0, 10, .inl af4)), (a5, .inl (T 0, 10, .inl af5)), (a6, .inl (T 0, 10, .inl af6)), (a7, .inl (T 0, 10, .inl af7)), (a9, .inl (T 0, 10, .inl af9))] H locs := V _ [0, 2, 0, 2, 3, 0, 0] rfl rfl rfl (by decide +kernel) rfl
                show W p l e _ s m args below meth c H locs _ _ _ (F0 m 62 ls [.int (nI 1)])
                refine lv_if_eq (tgt := 67) hx hb dX4_minutesToEnd_62 (by decide) (fun c => absurd (show (nI 1) = 0 from c) (by decide +kernel)) (fun _ => ?_)
                refine lv_iload_n hx hb dX4_minutesToEnd_65 rfl (lv_at hl 2 rfl) ?_
                exact g_iret (Qr := (q_e_minutes T e0 a0 e1 e2 em e3 e4 e5 e6 ea eb ec ed ee ef an am al ao au a1 a2 a3 a4 a5 a6 a7 a8 a9 a10 af1 af2 af3 af4 af5 af6 af7 af9)) hC V ⟨(Nat.le_of_ble_eq_true rfl), (Nat.le_of_ble_eq_true rfl)⟩ ⟨(nI kk), mt, fa, fb, gc_29, gd_30, fe, g_2, rfl, rfl, (by first | assumption | omega)⟩ dX4_minutesToEnd_66
              · have V : gW D T A s [(e0, .inr (4, [.ref e1, .ref e2, .int (nI mt), .ref e3, .ref e4, .ref e5, .ref e6])), (e1, .inl (T 1, 3001, .inr (.inl fa))), (e2, .inl (T 0, 8192, .inl fb)), (e3, .inl (T 0, 3, .inl gc_31)), (e4, .inl (T 0, 3, .inl gd_32)), (e5, .inl (T 0, 3, .inl fe)), (e6, .inl (T 0, 24, .inl g_2)), (a0, .inr (5, [.int (nI an), .int am, .int al, .int ao, .int au, .ref a1, .ref a2, .ref a3, .ref a4, .ref a5, .ref a6, .ref a7, .ref a8, .ref a9, .ref a10])), (a1, .inl (T 0, 10, .inl af1)), (a2, .inl (T 0, 10, .inl af2)), (a3, .inl (T 0, 10, .inl af3)), (a4, .inl (T 0, 10, .inl af4)), (a5, .inl (T 0, 10, .inl af5)), (a6, .inl (T 0, 10, .inl af6)), (a7, .inl (T 0, 10, .inl af7)), (a9, .inl (T 0, 10, .inl af9))] H locs := V _ [0, 2, 0, 2, 3, 0, 0] rfl rfl rfl (by decide +kernel) rfl
                show W p l e _ s m args below meth c H locs _ _ _ (F0 m 62 ls [.int (nI 0)])
                refine lv_if_eq (tgt := 67) hx hb dX4_minutesToEnd_62 (by decide) (fun _ => ?_) (fun c => absurd (show (nI 0) = 0 by decide +kernel) c)
                refine lv_iinc (v := (nI (ka + 1))) (lv' := [(5, .int (nI (ka + 1))), (4, .int (nI mt)), (3, .int (nI kk)), (2, .int (nI fst)), (0, .ref e0), (1, .ref a0)]) hx hb dX4_minutesToEnd_67 hl (k := 0) rfl (nI_1 _) (by decide) rfl (fun ls hl => ?_)
                refine lv_goto (tgt := 43) hx hb dX4_minutesToEnd_70 (by decide) ?_
                exact ih_43 (ka + 1) gc_31 gd_32 (by omega) (by omega) _ _ _ V (lv_sub hl [0, 1, 2, 3, 4, 5] rfl)
        exact L_11 _ fst fc fd (by omega) (Nat.lt_succ_self _) _ _ _ V (lv_sub hl [0, 1, 2, 3, 4, 5] rfl)
  exact L_9 _ 1 0 em2_3 g1_4 g2_5 ec ed ee (by omega) (by omega) (by omega) (by assumption) (Nat.lt_succ_self _) _ _ _ V (lv_sub hl [0, 1, 2, 3] rfl)

def q_fill10 (T : Nat → ClassId) (a : Nat) (x : Int32) (f0 : Nat → Int32) : Option Value → va_W → Prop := fun rr ww => (∃ (g : Nat → Int32), rr = none ∧ ww = [(a, .inl (T 0, 10, .inl g))] ∧ (∀ i, i < 10 → g i = x))
set_option maxHeartbeats 4000000 in
set_option maxRecDepth 100000 in
theorem c_fill10 (l : Launch) (D : va_G) (T : Nat → ClassId) (a : Nat) (x : Int32) (f0 : Nat → Int32) : Ct l yJ7_fill_53178 cJ7_fill_53178 4 none 0 0 0 D T [.ref a, .int x] [(a, .inl (T 0, 10, .inl f0))] (q_fill10 T a x f0) := by
  refine Ct.of (cc := cJ7_fill_53178) (maxL := 4) (ret := none) (by decide) (Nat.le_of_ble_eq_true rfl) ?_
  intro p e s m args below meth c A ls hC hnm V hl
  obtain ⟨hx, hb, hr, hml, hown, hts, hlocks⟩ := id hC
  generalize hH : s.heap = H at V ⊢
  clear hH
  have hl : lv_has ls 4 [(0, .ref a), (1, .int x)] := hl
  generalize hlo : ([] : List Loc) = locs at V ⊢
  clear hlo
  refine lv_iconst (v := (nI 0)) hx hb dJ7_fill_53178_0 (by decide +kernel) ?_
  refine lv_istore_n (lv' := [(2, .int (nI 0)), (0, .ref a), (1, .int x)]) hx hb dJ7_fill_53178_1 rfl hl (by decide) rfl (fun ls hl => ?_)
  refine lv_aload_n hx hb dJ7_fill_53178_2 rfl (lv_at hl 1 rfl) ?_
  refine g_alen hC V 0 0 rfl rfl dJ7_fill_53178_3 ?_
  refine lv_istore_n (lv' := [(3, .int (nI 10)), (2, .int (nI 0)), (0, .ref a), (1, .int x)]) hx hb dJ7_fill_53178_4 rfl hl (by decide) rfl (fun ls hl => ?_)
  have L_1 : ∀ (fu : Nat) (k : Nat) (f : Nat → Int32), k ≤ 10 → (∀ i, i < k → f i = x) → 10 - k < fu → ∀ (H : Heap) (locs : List Loc) (ls : Array Slot), gW D T A s [(a, .inl (T 0, 10, .inl f))] H locs → lv_has ls 4 [(3, .int (nI 10)), (2, .int (nI k)), (0, .ref a), (1, .int x)] → W p l e (rmD 0 0 0) s m args below meth c H locs 0 0 (MQ below (gQ D A (q_fill10 T a x f0)) args s 0 0 A) (F0 m 5 ls []) := by
    intro fu_5
    induction fu_5 with
    | zero => intro k f hk hf hmu; exact absurd hmu (Nat.not_lt_zero _)
    | succ fu_5 ih_5 =>
      intro k f hk hf hmu_5 H locs ls V hl
      refine lv_iload_n hx hb dJ7_fill_53178_5 rfl (lv_at hl 1 rfl) ?_
      refine lv_iload_n hx hb dJ7_fill_53178_6 rfl (lv_at hl 0 rfl) ?_
      refine lv_icmp_ge (tgt := 20) hx hb dJ7_fill_53178_7 (by decide) (fun c_2 => ?_) (fun c_2 => ?_)
      · skip
        have c_2 := b_le (by omega) (by omega) c_2
        exact g_vret (Qr := (q_fill10 T a x f0)) hC V ⟨(Nat.le_of_ble_eq_true rfl), (Nat.le_of_ble_eq_true rfl)⟩ ⟨f, rfl, rfl, (fun i h => hf i (by omega))⟩ dJ7_fill_53178_20
      · skip
        have c_2 := b_nle (by omega) (by omega) c_2
        refine lv_aload_n hx hb dJ7_fill_53178_10 rfl (lv_at hl 2 rfl) ?_
        refine lv_iload_n hx hb dJ7_fill_53178_11 rfl (lv_at hl 1 rfl) ?_
        refine lv_iload_n hx hb dJ7_fill_53178_12 rfl (lv_at hl 3 rfl) ?_
        refine g_iast hC V 0 rfl (vp_in_nI (by omega) (by omega)) (f' := (upd f k x)) (by rw [nI_clamp (by omega)]) (ws' := [(a, .inl (T 0, 10, .inl (upd f k x)))]) rfl dJ7_fill_53178_13 (fun H locs V => ?_)
        refine lv_iinc (v := (nI (k + 1))) (lv' := [(2, .int (nI (k + 1))), (3, .int (nI 10)), (0, .ref a), (1, .int x)]) hx hb dJ7_fill_53178_14 hl (k := 1) rfl (nI_1 _) (by decide) rfl (fun ls hl => ?_)
        refine lv_goto (tgt := 5) hx hb dJ7_fill_53178_17 (by decide) ?_
        exact ih_5 (k + 1) (upd f k x) (by omega) (up_one (p := fun i y => y = x) hf rfl) (by omega) _ _ _ V (lv_sub hl [1, 0, 2, 3] rfl)
  exact L_1 _ 0 f0 (by omega) (fun i h => absurd h (Nat.not_lt_zero _)) (Nat.lt_succ_self _) _ _ _ V (lv_sub hl [0, 1, 2, 3] rfl)

def q_x_smith (T : Nat → ClassId) (o : Nat) (i : Int32) (wh : Int32) (n0 : Nat) (s0 : Nat) (im : Nat) (iz : Nat) (rw : Nat) (t0 : Nat) (u0 : Nat) (h0 : Nat) (y0 : Nat) (sv : Value) (nn : Nat) (nm : Int32) (nl : Int32) (no : Int32) (nu : Int32) (n1 : Nat) (n2 : Nat) (n3 : Nat) (n4 : Nat) (n5 : Nat) (n6 : Nat) (n7 : Nat) (n8 : Nat) (n9 : Nat) (n10 : Nat) (nf1 : Nat → Int32) (nf2 : Nat → Int32) (nf3 : Nat → Int32) (nf4 : Nat → Int32) (nf5 : Nat → Int32) (nf6 : Nat → Int32) (nf7 : Nat → Int32) (nf8 : Nat → Int32) (nf9 : Nat → Int32) : Option Value → va_W → Prop := fun rr ww => (∃ (z : Int32), rr = some (.int z) ∧ ww = [(o, .inr (7, [.ref n0, .ref s0, .ref im, .ref iz, .ref rw, .ref t0, .ref u0, .ref h0, .ref y0, sv])), (n0, .inr (5, [.int (nI nn), .int nm, .int nl, .int no, .int nu, .ref n1, .ref n2, .ref n3, .ref n4, .ref n5, .ref n6, .ref n7, .ref n8, .ref n9, .ref n10])), (n1, .inl (T 0, 10, .inl nf1)), (n2, .inl (T 0, 10, .inl nf2)), (n3, .inl (T 0, 10, .inl nf3)), (n4, .inl (T 0, 10, .inl nf4)), (n5, .inl (T 0, 10, .inl nf5)), (n6, .inl (T 0, 10, .inl nf6)), (n7, .inl (T 0, 10, .inl nf7)), (n8, .inl (T 0, 10, .inl nf8)), (n9, .inl (T 0, 10, .inl nf9))])
set_option maxHeartbeats 4000000 in
set_option maxRecDepth 100000 in
theorem x_smith (l : Launch) (D : va_G) (T : Nat → ClassId) (o : Nat) (i : Int32) (wh : Int32) (n0 : Nat) (s0 : Nat) (im : Nat) (iz : Nat) (rw : Nat) (t0 : Nat) (u0 : Nat) (h0 : Nat) (y0 : Nat) (sv : Value) (nn : Nat) (nm : Int32) (nl : Int32) (no : Int32) (nu : Int32) (n1 : Nat) (n2 : Nat) (n3 : Nat) (n4 : Nat) (n5 : Nat) (n6 : Nat) (n7 : Nat) (n8 : Nat) (n9 : Nat) (n10 : Nat) (nf1 : Nat → Int32) (nf2 : Nat → Int32) (nf3 : Nat → Int32) (nf4 : Nat → Int32) (nf5 : Nat → Int32) (nf6 : Nat → Int32) (nf7 : Nat → Int32) (nf8 : Nat → Int32) (nf9 : Nat → Int32) (h_n : nn ≤ 10) : Ct l yX7_smith cX7_smith 3 (some .int) 1 0 0 D T [.ref o, .int i, .int wh] [(o, .inr (7, [.ref n0, .ref s0, .ref im, .ref iz, .ref rw, .ref t0, .ref u0, .ref h0, .ref y0, sv])), (n0, .inr (5, [.int (nI nn), .int nm, .int nl, .int no, .int nu, .ref n1, .ref n2, .ref n3, .ref n4, .ref n5, .ref n6, .ref n7, .ref n8, .ref n9, .ref n10])), (n1, .inl (T 0, 10, .inl nf1)), (n2, .inl (T 0, 10, .inl nf2)), (n3, .inl (T 0, 10, .inl nf3)), (n4, .inl (T 0, 10, .inl nf4)), (n5, .inl (T 0, 10, .inl nf5)), (n6, .inl (T 0, 10, .inl nf6)), (n7, .inl (T 0, 10, .inl nf7)), (n8, .inl (T 0, 10, .inl nf8)), (n9, .inl (T 0, 10, .inl nf9))] (q_x_smith T o i wh n0 s0 im iz rw t0 u0 h0 y0 sv nn nm nl no nu n1 n2 n3 n4 n5 n6 n7 n8 n9 n10 nf1 nf2 nf3 nf4 nf5 nf6 nf7 nf8 nf9) := by
  refine Ct.of (cc := cX7_smith) (maxL := 3) (ret := (some .int)) (by decide) (Nat.le_of_ble_eq_true rfl) ?_
  intro p e s m args below meth c A ls hC hnm V hl
  obtain ⟨hx, hb, hr, hml, hown, hts, hlocks⟩ := id hC
  generalize hH : s.heap = H at V ⊢
  clear hH
  have hl : lv_has ls 3 [(0, .ref o), (1, .int i), (2, .int wh)] := hl
  generalize hlo : ([] : List Loc) = locs at V ⊢
  clear hlo
  refine lv_aload_n hx hb dX7_smith_0 rfl (lv_at hl 0 rfl) ?_
  refine g_get hC V (ci := 7) uwX7 0 rfl rfl 0 (by decide) w_249 rfl rfl dX7_smith_1 ?_
  refine lv_iload_n hx hb dX7_smith_4 rfl (lv_at hl 1 rfl) ?_
  refine g_callVU (nA := 1) hC V hl.1 (s_isSmith l D T n0 i nn nm nl no nu n1 n2 n3 n4 n5 n6 n7 n8 n9 n10 (by first | assumption | omega)) w_425 w_426 w_427 w_3 w_428 (by decide +kernel) rfl ⟨(Nat.le_of_ble_eq_true rfl), (Nat.le_of_ble_eq_true rfl)⟩ 1 (ci := 5) rfl rfl [1] rfl rfl (Nat.le_of_ble_eq_true rfl) dX7_smith_5 ⟨(Nat.le_of_ble_eq_true rfl), (Nat.le_of_ble_eq_true rfl)⟩ rfl (fun r w1 H locs hQ V => ?_)
  rcases hQ with ⟨j_1, rfl, rfl, f_2, f_3⟩ | ⟨rfl, rfl, f_4⟩
  · have V : gW D T A s [(o, .inr (7, [.ref n0, .ref s0, .ref im, .ref iz, .ref rw, .ref t0, .ref u0, .ref h0, .ref y0, sv])), (n0, .inr (5, [.int (nI nn), .int nm, .int nl, .int no, .int nu, .ref n1, .ref n2, .ref n3, .ref n4, .ref n5, .ref n6, .ref n7, .ref n8, .ref n9, .ref n10])), (n1, .inl (T 0, 10, .inl nf1)), (n2, .inl (T 0, 10, .inl nf2)), (n3, .inl (T 0, 10, .inl nf3)), (n4, .inl (T 0, 10, .inl nf4)), (n5, .inl (T 0, 10, .inl nf5)), (n6, .inl (T 0, 10, .inl nf6)), (n7, .inl (T 0, 10, .inl nf7)), (n8, .inl (T 0, 10, .inl nf8)), (n9, .inl (T 0, 10, .inl nf9))] H locs := V _ [1] rfl rfl rfl (by decide +kernel) rfl
    show W p l e _ s m args below meth c H locs _ _ _ (F0 m 8 ls [.int (nI 1)])
    rw [f_2] at hl
    refine lv_if_ne (tgt := 14) hx hb dX7_smith_8 (by decide) (fun _ => ?_) (fun c => absurd (show (nI 1) = 0 from c) (by decide +kernel))
    refine lv_iload_n hx hb dX7_smith_14 rfl (lv_at hl 2 rfl) ?_
    by_cases c_50 : wh = (nI 0)
    · skip
      refine lv_tableIn (tgt := 68) (off := 53) hx hb dX7_smith_15 (by first | decide +kernel | (rw [c_50]; decide +kernel)) (by first | decide +kernel | (rw [c_50]; decide +kernel)) (by first | decide +kernel | (rw [c_50]; decide +kernel)) (by decide) ?_
      refine lv_aload_n hx hb dX7_smith_68 rfl (lv_at hl 0 rfl) ?_
      refine g_get hC V (ci := 7) uwX7 0 rfl rfl 0 (by decide) w_249 rfl rfl dX7_smith_69 ?_
      refine g_get hC V (ci := 5) uwX5 1 rfl rfl 5 (by decide) w_54 rfl rfl dX7_smith_72 ?_
      refine lv_iload_n hx hb dX7_smith_75 rfl (lv_at hl 1 rfl) ?_
      refine g_iald hC V 2 rfl (vp_in_nI (by omega) (by omega)) (v := (nf1 j_1)) (congrArg _ (nI_clamp (by omega))) dX7_smith_76 ?_
      exact g_iret (Qr := (q_x_smith T o i wh n0 s0 im iz rw t0 u0 h0 y0 sv nn nm nl no nu n1 n2 n3 n4 n5 n6 n7 n8 n9 n10 nf1 nf2 nf3 nf4 nf5 nf6 nf7 nf8 nf9)) hC V ⟨(Nat.le_of_ble_eq_true rfl), (Nat.le_of_ble_eq_true rfl)⟩ ⟨(nf1 j_1), rfl, rfl⟩ dX7_smith_77
    by_cases c_51 : wh = (nI 1)
    · skip
      refine lv_tableIn (tgt := 78) (off := 63) hx hb dX7_smith_15 (by first | decide +kernel | (rw [c_51]; decide +kernel)) (by first | decide +kernel | (rw [c_51]; decide +kernel)) (by first | decide +kernel | (rw [c_51]; decide +kernel)) (by decide) ?_
      refine lv_aload_n hx hb dX7_smith_78 rfl (lv_at hl 0 rfl) ?_
      refine g_get hC V (ci := 7) uwX7 0 rfl rfl 0 (by decide) w_249 rfl rfl dX7_smith_79 ?_
      refine g_get hC V (ci := 5) uwX5 1 rfl rfl 6 (by decide) w_60 rfl rfl dX7_smith_82 ?_
      refine lv_iload_n hx hb dX7_smith_85 rfl (lv_at hl 1 rfl) ?_
      refine g_iald hC V 3 rfl (vp_in_nI (by omega) (by omega)) (v := (nf2 j_1)) (congrArg _ (nI_clamp (by omega))) dX7_smith_86 ?_
      exact g_iret (Qr := (q_x_smith T o i wh n0 s0 im iz rw t0 u0 h0 y0 sv nn nm nl no nu n1 n2 n3 n4 n5 n6 n7 n8 n9 n10 nf1 nf2 nf3 nf4 nf5 nf6 nf7 nf8 nf9)) hC V ⟨(Nat.le_of_ble_eq_true rfl), (Nat.le_of_ble_eq_true rfl)⟩ ⟨(nf2 j_1), rfl, rfl⟩ dX7_smith_87
    by_cases c_52 : wh = (nI 2)
    · skip
      refine lv_tableIn (tgt := 88) (off := 73) hx hb dX7_smith_15 (by first | decide +kernel | (rw [c_52]; decide +kernel)) (by first | decide +kernel | (rw [c_52]; decide +kernel)) (by first | decide +kernel | (rw [c_52]; decide +kernel)) (by decide) ?_
      refine lv_aload_n hx hb dX7_smith_88 rfl (lv_at hl 0 rfl) ?_
      refine g_get hC V (ci := 7) uwX7 0 rfl rfl 0 (by decide) w_249 rfl rfl dX7_smith_89 ?_
      refine g_get hC V (ci := 5) uwX5 1 rfl rfl 7 (by decide) w_65 rfl rfl dX7_smith_92 ?_
      refine lv_iload_n hx hb dX7_smith_95 rfl (lv_at hl 1 rfl) ?_
      refine g_iald hC V 4 rfl (vp_in_nI (by omega) (by omega)) (v := (nf3 j_1)) (congrArg _ (nI_clamp (by omega))) dX7_smith_96 ?_
      exact g_iret (Qr := (q_x_smith T o i wh n0 s0 im iz rw t0 u0 h0 y0 sv nn nm nl no nu n1 n2 n3 n4 n5 n6 n7 n8 n9 n10 nf1 nf2 nf3 nf4 nf5 nf6 nf7 nf8 nf9)) hC V ⟨(Nat.le_of_ble_eq_true rfl), (Nat.le_of_ble_eq_true rfl)⟩ ⟨(nf3 j_1), rfl, rfl⟩ dX7_smith_97
    by_cases c_53 : wh = (nI 3)
    · skip
      refine lv_tableIn (tgt := 98) (off := 83) hx hb dX7_smith_15 (by first | decide +kernel | (rw [c_53]; decide +kernel)) (by first | decide +kernel | (rw [c_53]; decide +kernel)) (by first | decide +kernel | (rw [c_53]; decide +kernel)) (by decide) ?_
      refine lv_aload_n hx hb dX7_smith_98 rfl (lv_at hl 0 rfl) ?_
      refine g_get hC V (ci := 7) uwX7 0 rfl rfl 0 (by decide) w_249 rfl rfl dX7_smith_99 ?_
      refine g_get hC V (ci := 5) uwX5 1 rfl rfl 8 (by decide) w_69 rfl rfl dX7_smith_102 ?_
      refine lv_iload_n hx hb dX7_smith_105 rfl (lv_at hl 1 rfl) ?_
      refine g_iald hC V 5 rfl (vp_in_nI (by omega) (by omega)) (v := (nf4 j_1)) (congrArg _ (nI_clamp (by omega))) dX7_smith_106 ?_
      exact g_iret (Qr := (q_x_smith T o i wh n0 s0 im iz rw t0 u0 h0 y0 sv nn nm nl no nu n1 n2 n3 n4 n5 n6 n7 n8 n9 n10 nf1 nf2 nf3 nf4 nf5 nf6 nf7 nf8 nf9)) hC V ⟨(Nat.le_of_ble_eq_true rfl), (Nat.le_of_ble_eq_true rfl)⟩ ⟨(nf4 j_1), rfl, rfl⟩ dX7_smith_107
    by_cases c_54 : wh = (nI 4)
    · skip
      refine lv_tableIn (tgt := 108) (off := 93) hx hb dX7_smith_15 (by first | decide +kernel | (rw [c_54]; decide +kernel)) (by first | decide +kernel | (rw [c_54]; decide +kernel)) (by first | decide +kernel | (rw [c_54]; decide +kernel)) (by decide) ?_
      refine lv_aload_n hx hb dX7_smith_108 rfl (lv_at hl 0 rfl) ?_
      refine g_get hC V (ci := 7) uwX7 0 rfl rfl 0 (by decide) w_249 rfl rfl dX7_smith_109 ?_
      refine g_get hC V (ci := 5) uwX5 1 rfl rfl 9 (by decide) w_72 rfl rfl dX7_smith_112 ?_
      refine lv_iload_n hx hb dX7_smith_115 rfl (lv_at hl 1 rfl) ?_
      refine g_iald hC V 6 rfl (vp_in_nI (by omega) (by omega)) (v := (nf5 j_1)) (congrArg _ (nI_clamp (by omega))) dX7_smith_116 ?_
      exact g_iret (Qr := (q_x_smith T o i wh n0 s0 im iz rw t0 u0 h0 y0 sv nn nm nl no nu n1 n2 n3 n4 n5 n6 n7 n8 n9 n10 nf1 nf2 nf3 nf4 nf5 nf6 nf7 nf8 nf9)) hC V ⟨(Nat.le_of_ble_eq_true rfl), (Nat.le_of_ble_eq_true rfl)⟩ ⟨(nf5 j_1), rfl, rfl⟩ dX7_smith_117
    by_cases c_55 : wh = (nI 5)
    · skip
      refine lv_tableIn (tgt := 118) (off := 103) hx hb dX7_smith_15 (by first | decide +kernel | (rw [c_55]; decide +kernel)) (by first | decide +kernel | (rw [c_55]; decide +kernel)) (by first | decide +kernel | (rw [c_55]; decide +kernel)) (by decide) ?_
      refine lv_aload_n hx hb dX7_smith_118 rfl (lv_at hl 0 rfl) ?_
      refine g_get hC V (ci := 7) uwX7 0 rfl rfl 0 (by decide) w_249 rfl rfl dX7_smith_119 ?_
      refine g_get hC V (ci := 5) uwX5 1 rfl rfl 10 (by decide) w_76 rfl rfl dX7_smith_122 ?_
      refine lv_iload_n hx hb dX7_smith_125 rfl (lv_at hl 1 rfl) ?_
      refine g_iald hC V 7 rfl (vp_in_nI (by omega) (by omega)) (v := (nf6 j_1)) (congrArg _ (nI_clamp (by omega))) dX7_smith_126 ?_
      exact g_iret (Qr := (q_x_smith T o i wh n0 s0 im iz rw t0 u0 h0 y0 sv nn nm nl no nu n1 n2 n3 n4 n5 n6 n7 n8 n9 n10 nf1 nf2 nf3 nf4 nf5 nf6 nf7 nf8 nf9)) hC V ⟨(Nat.le_of_ble_eq_true rfl), (Nat.le_of_ble_eq_true rfl)⟩ ⟨(nf6 j_1), rfl, rfl⟩ dX7_smith_127
    by_cases c_56 : wh = (nI 6)
    · skip
      refine lv_tableIn (tgt := 128) (off := 113) hx hb dX7_smith_15 (by first | decide +kernel | (rw [c_56]; decide +kernel)) (by first | decide +kernel | (rw [c_56]; decide +kernel)) (by first | decide +kernel | (rw [c_56]; decide +kernel)) (by decide) ?_
      refine lv_aload_n hx hb dX7_smith_128 rfl (lv_at hl 0 rfl) ?_
      refine g_get hC V (ci := 7) uwX7 0 rfl rfl 0 (by decide) w_249 rfl rfl dX7_smith_129 ?_
      refine g_get hC V (ci := 5) uwX5 1 rfl rfl 11 (by decide) w_79 rfl rfl dX7_smith_132 ?_
      refine lv_iload_n hx hb dX7_smith_135 rfl (lv_at hl 1 rfl) ?_
      refine g_iald hC V 8 rfl (vp_in_nI (by omega) (by omega)) (v := (nf7 j_1)) (congrArg _ (nI_clamp (by omega))) dX7_smith_136 ?_
      exact g_iret (Qr := (q_x_smith T o i wh n0 s0 im iz rw t0 u0 h0 y0 sv nn nm nl no nu n1 n2 n3 n4 n5 n6 n7 n8 n9 n10 nf1 nf2 nf3 nf4 nf5 nf6 nf7 nf8 nf9)) hC V ⟨(Nat.le_of_ble_eq_true rfl), (Nat.le_of_ble_eq_true rfl)⟩ ⟨(nf7 j_1), rfl, rfl⟩ dX7_smith_137
    by_cases c_57 : wh = (nI 7)
    · skip
      refine lv_tableIn (tgt := 138) (off := 123) hx hb dX7_smith_15 (by first | decide +kernel | (rw [c_57]; decide +kernel)) (by first | decide +kernel | (rw [c_57]; decide +kernel)) (by first | decide +kernel | (rw [c_57]; decide +kernel)) (by decide) ?_
      refine lv_aload_n hx hb dX7_smith_138 rfl (lv_at hl 0 rfl) ?_
      refine g_get hC V (ci := 7) uwX7 0 rfl rfl 0 (by decide) w_249 rfl rfl dX7_smith_139 ?_
      refine g_get hC V (ci := 5) uwX5 1 rfl rfl 12 (by decide) w_81 rfl rfl dX7_smith_142 ?_
      refine lv_iload_n hx hb dX7_smith_145 rfl (lv_at hl 1 rfl) ?_
      refine g_iald hC V 9 rfl (vp_in_nI (by omega) (by omega)) (v := (nf8 j_1)) (congrArg _ (nI_clamp (by omega))) dX7_smith_146 ?_
      exact g_iret (Qr := (q_x_smith T o i wh n0 s0 im iz rw t0 u0 h0 y0 sv nn nm nl no nu n1 n2 n3 n4 n5 n6 n7 n8 n9 n10 nf1 nf2 nf3 nf4 nf5 nf6 nf7 nf8 nf9)) hC V ⟨(Nat.le_of_ble_eq_true rfl), (Nat.le_of_ble_eq_true rfl)⟩ ⟨(nf8 j_1), rfl, rfl⟩ dX7_smith_147
    by_cases c_58 : wh = (nI 8)
    · skip
      refine lv_tableIn (tgt := 148) (off := 133) hx hb dX7_smith_15 (by first | decide +kernel | (rw [c_58]; decide +kernel)) (by first | decide +kernel | (rw [c_58]; decide +kernel)) (by first | decide +kernel | (rw [c_58]; decide +kernel)) (by decide) ?_
      refine lv_aload_n hx hb dX7_smith_148 rfl (lv_at hl 0 rfl) ?_
      refine g_get hC V (ci := 7) uwX7 0 rfl rfl 0 (by decide) w_249 rfl rfl dX7_smith_149 ?_
      refine g_get hC V (ci := 5) uwX5 1 rfl rfl 13 (by decide) w_84 rfl rfl dX7_smith_152 ?_
      refine lv_iload_n hx hb dX7_smith_155 rfl (lv_at hl 1 rfl) ?_
      refine g_iald hC V 10 rfl (vp_in_nI (by omega) (by omega)) (v := (nf9 j_1)) (congrArg _ (nI_clamp (by omega))) dX7_smith_156 ?_
      exact g_iret (Qr := (q_x_smith T o i wh n0 s0 im iz rw t0 u0 h0 y0 sv nn nm nl no nu n1 n2 n3 n4 n5 n6 n7 n8 n9 n10 nf1 nf2 nf3 nf4 nf5 nf6 nf7 nf8 nf9)) hC V ⟨(Nat.le_of_ble_eq_true rfl), (Nat.le_of_ble_eq_true rfl)⟩ ⟨(nf9 j_1), rfl, rfl⟩ dX7_smith_157
    by_cases c_59 : wh = (nI 9)
    · skip
      refine lv_tableIn (tgt := 158) (off := 143) hx hb dX7_smith_15 (by first | decide +kernel | (rw [c_59]; decide +kernel)) (by first | decide +kernel | (rw [c_59]; decide +kernel)) (by first | decide +kernel | (rw [c_59]; decide +kernel)) (by decide) ?_
      refine lv_aload_n hx hb dX7_smith_158 rfl (lv_at hl 0 rfl) ?_
      refine g_get hC V (ci := 7) uwX7 0 rfl rfl 0 (by decide) w_249 rfl rfl dX7_smith_159 ?_
      refine lv_iload_n hx hb dX7_smith_162 rfl (lv_at hl 1 rfl) ?_
      refine g_callVU (nA := 1) hC V hl.1 (s_isDone l D T n0 j_1 nn nm nl no nu n1 n2 n3 n4 n5 n6 n7 n8 n9 n10 nf6 nf7 (by first | assumption | omega)) w_429 w_430 w_431 w_3 w_432 (by decide +kernel) rfl ⟨(Nat.le_of_ble_eq_true rfl), (Nat.le_of_ble_eq_true rfl)⟩ 1 (ci := 5) rfl rfl [1, 7, 8] rfl rfl (Nat.le_of_ble_eq_true rfl) dX7_smith_163 ⟨(Nat.le_of_ble_eq_true rfl), (Nat.le_of_ble_eq_true rfl)⟩ rfl (fun r w1 H locs hQ V => ?_)
      rcases hQ with ⟨rfl, rfl, f_6⟩ | ⟨rfl, rfl, f_7⟩
      · have V : gW D T A s [(o, .inr (7, [.ref n0, .ref s0, .ref im, .ref iz, .ref rw, .ref t0, .ref u0, .ref h0, .ref y0, sv])), (n0, .inr (5, [.int (nI nn), .int nm, .int nl, .int no, .int nu, .ref n1, .ref n2, .ref n3, .ref n4, .ref n5, .ref n6, .ref n7, .ref n8, .ref n9, .ref n10])), (n1, .inl (T 0, 10, .inl nf1)), (n2, .inl (T 0, 10, .inl nf2)), (n3, .inl (T 0, 10, .inl nf3)), (n4, .inl (T 0, 10, .inl nf4)), (n5, .inl (T 0, 10, .inl nf5)), (n6, .inl (T 0, 10, .inl nf6)), (n7, .inl (T 0, 10, .inl nf7)), (n8, .inl (T 0, 10, .inl nf8)), (n9, .inl (T 0, 10, .inl nf9))] H locs := V _ [1, 5, 0] rfl rfl rfl (by decide +kernel) rfl
        show W p l e _ s m args below meth c H locs _ _ _ (F0 m 166 ls [.int (nI 1)])
        refine lv_if_eq (tgt := 173) hx hb dX7_smith_166 (by decide) (fun c => absurd (show (nI 1) = 0 from c) (by decide +kernel)) (fun _ => ?_)
        refine lv_iconst (v := (nI 1)) hx hb dX7_smith_169 (by decide +kernel) ?_
        refine lv_goto (tgt := 174) hx hb dX7_smith_170 (by decide) ?_
        exact g_iret (Qr := (q_x_smith T o i wh n0 s0 im iz rw t0 u0 h0 y0 sv nn nm nl no nu n1 n2 n3 n4 n5 n6 n7 n8 n9 n10 nf1 nf2 nf3 nf4 nf5 nf6 nf7 nf8 nf9)) hC V ⟨(Nat.le_of_ble_eq_true rfl), (Nat.le_of_ble_eq_true rfl)⟩ ⟨(nI 1), rfl, rfl⟩ dX7_smith_174
      · have V : gW D T A s [(o, .inr (7, [.ref n0, .ref s0, .ref im, .ref iz, .ref rw, .ref t0, .ref u0, .ref h0, .ref y0, sv])), (n0, .inr (5, [.int (nI nn), .int nm, .int nl, .int no, .int nu, .ref n1, .ref n2, .ref n3, .ref n4, .ref n5, .ref n6, .ref n7, .ref n8, .ref n9, .ref n10])), (n1, .inl (T 0, 10, .inl nf1)), (n2, .inl (T 0, 10, .inl nf2)), (n3, .inl (T 0, 10, .inl nf3)), (n4, .inl (T 0, 10, .inl nf4)), (n5, .inl (T 0, 10, .inl nf5)), (n6, .inl (T 0, 10, .inl nf6)), (n7, .inl (T 0, 10, .inl nf7)), (n8, .inl (T 0, 10, .inl nf8)), (n9, .inl (T 0, 10, .inl nf9))] H locs := V _ [1, 5, 0] rfl rfl rfl (by decide +kernel) rfl
        show W p l e _ s m args below meth c H locs _ _ _ (F0 m 166 ls [.int (nI 0)])
        refine lv_if_eq (tgt := 173) hx hb dX7_smith_166 (by decide) (fun _ => ?_) (fun c => absurd (show (nI 0) = 0 by decide +kernel) c)
        refine lv_iconst (v := (nI 0)) hx hb dX7_smith_173 (by decide +kernel) ?_
        exact g_iret (Qr := (q_x_smith T o i wh n0 s0 im iz rw t0 u0 h0 y0 sv nn nm nl no nu n1 n2 n3 n4 n5 n6 n7 n8 n9 n10 nf1 nf2 nf3 nf4 nf5 nf6 nf7 nf8 nf9)) hC V ⟨(Nat.le_of_ble_eq_true rfl), (Nat.le_of_ble_eq_true rfl)⟩ ⟨(nI 0), rfl, rfl⟩ dX7_smith_174
    refine lv_tableOut (tgt := 175) hx hb dX7_smith_15 (g_out 0 9 (fun k h1 h2 => ?_)) (by decide) ?_
    · intro h
      have h3 : k = 0 ∨ k = 1 ∨ k = 2 ∨ k = 3 ∨ k = 4 ∨ k = 5 ∨ k = 6 ∨ k = 7 ∨ k = 8 ∨ k = 9 := by omega
      rcases h3 with rfl | rfl | rfl | rfl | rfl | rfl | rfl | rfl | rfl | rfl
      · exact c_50 (g_out2 h (by decide +kernel))
      · exact c_51 (g_out2 h (by decide +kernel))
      · exact c_52 (g_out2 h (by decide +kernel))
      · exact c_53 (g_out2 h (by decide +kernel))
      · exact c_54 (g_out2 h (by decide +kernel))
      · exact c_55 (g_out2 h (by decide +kernel))
      · exact c_56 (g_out2 h (by decide +kernel))
      · exact c_57 (g_out2 h (by decide +kernel))
      · exact c_58 (g_out2 h (by decide +kernel))
      · exact c_59 (g_out2 h (by decide +kernel))
    refine lv_bipush (v := (-2)) hx hb dX7_smith_175 (by decide +kernel) ?_
    exact g_iret (Qr := (q_x_smith T o i wh n0 s0 im iz rw t0 u0 h0 y0 sv nn nm nl no nu n1 n2 n3 n4 n5 n6 n7 n8 n9 n10 nf1 nf2 nf3 nf4 nf5 nf6 nf7 nf8 nf9)) hC V ⟨(Nat.le_of_ble_eq_true rfl), (Nat.le_of_ble_eq_true rfl)⟩ ⟨(-2), rfl, rfl⟩ dX7_smith_177
  · have V : gW D T A s [(o, .inr (7, [.ref n0, .ref s0, .ref im, .ref iz, .ref rw, .ref t0, .ref u0, .ref h0, .ref y0, sv])), (n0, .inr (5, [.int (nI nn), .int nm, .int nl, .int no, .int nu, .ref n1, .ref n2, .ref n3, .ref n4, .ref n5, .ref n6, .ref n7, .ref n8, .ref n9, .ref n10])), (n1, .inl (T 0, 10, .inl nf1)), (n2, .inl (T 0, 10, .inl nf2)), (n3, .inl (T 0, 10, .inl nf3)), (n4, .inl (T 0, 10, .inl nf4)), (n5, .inl (T 0, 10, .inl nf5)), (n6, .inl (T 0, 10, .inl nf6)), (n7, .inl (T 0, 10, .inl nf7)), (n8, .inl (T 0, 10, .inl nf8)), (n9, .inl (T 0, 10, .inl nf9))] H locs := V _ [1] rfl rfl rfl (by decide +kernel) rfl
    show W p l e _ s m args below meth c H locs _ _ _ (F0 m 8 ls [.int (nI 0)])
    refine lv_if_ne (tgt := 14) hx hb dX7_smith_8 (by decide) (fun c => absurd (show (nI 0) = 0 by decide +kernel) c) (fun _ => ?_)
    refine lv_bipush (v := (-2)) hx hb dX7_smith_11 (by decide +kernel) ?_
    exact g_iret (Qr := (q_x_smith T o i wh n0 s0 im iz rw t0 u0 h0 y0 sv nn nm nl no nu n1 n2 n3 n4 n5 n6 n7 n8 n9 n10 nf1 nf2 nf3 nf4 nf5 nf6 nf7 nf8 nf9)) hC V ⟨(Nat.le_of_ble_eq_true rfl), (Nat.le_of_ble_eq_true rfl)⟩ ⟨(-2), rfl, rfl⟩ dX7_smith_13

/-- why a row is refused: -2 there is no such row, -6 it isn't there -/
def rowWhy (row a b c d : Int32) : Int32 := if row < 0 ∨ nI 4 ≤ row then -2 else if row = nI 0 ∧ a = 0 ∨ row = nI 1 ∧ b = 0 ∨ row = nI 2 ∧ c = 0 ∨ row = nI 3 ∧ d = 0 then -6 else 0
theorem rw_out {row a b c d : Int32} (h : row < 0 ∨ nI 4 ≤ row) : -2 = rowWhy row a b c d := by simp [rowWhy, h]
theorem rw_in {row : Int32} {k : Nat} (h : row = nI k) (hk : k < 4) : ¬ (row < 0 ∨ nI 4 ≤ row) := by
  subst h
  rintro (h | h)
  · exact absurd h (nI_pos (by omega))
  · exact absurd (b_le (by decide) (by omega) h) (by omega)
theorem rw_0 {row a b c d : Int32} (h : row = nI 0) (h0 : a = 0) : -6 = rowWhy row a b c d := by rw [rowWhy, if_neg (rw_in h (by decide)), if_pos (Or.inl ⟨h, h0⟩)]
theorem rw_1 {row a b c d : Int32} (h : row = nI 1) (h0 : b = 0) : -6 = rowWhy row a b c d := by rw [rowWhy, if_neg (rw_in h (by decide)), if_pos (Or.inr (Or.inl ⟨h, h0⟩))]
theorem rw_2 {row a b c d : Int32} (h : row = nI 2) (h0 : c = 0) : -6 = rowWhy row a b c d := by rw [rowWhy, if_neg (rw_in h (by decide)), if_pos (Or.inr (Or.inr (Or.inl ⟨h, h0⟩)))]
theorem rw_3 {row a b c d : Int32} (h : row = nI 3) (h0 : d = 0) : -6 = rowWhy row a b c d := by rw [rowWhy, if_neg (rw_in h (by decide)), if_pos (Or.inr (Or.inr (Or.inr ⟨h, h0⟩)))]
theorem rw_ne {row : Int32} {a b : Nat} (h : row = nI a) (h2 : row = nI b) (h3 : ¬ nI a = nI b) : False := h3 (h.symm.trans h2)

def q_x_refusedRow (T : Nat → ClassId) (o : Nat) (row : Int32) (n0 : Nat) (s0 : Nat) (im : Nat) (iz : Nat) (rw : Nat) (t0 : Nat) (u0 : Nat) (h0 : Nat) (y0 : Nat) (sv : Value) (ra0 : Nat) (rb0 : Nat) (rc0 : Nat) (rd0 : Nat) (rah : Int32) (raz : Nat) (ra1 : Nat) (ras : Nat) (raf : Nat → Int64) (rbh : Int32) (rbz : Nat) (rb1 : Nat) (rbs : Nat) (rbf : Nat → Int64) (rch : Int32) (rcz : Nat) (rc1 : Nat) (rcs : Nat) (rcf : Nat → Int64) (rdh : Int32) (rdz : Nat) (rd1 : Nat) (rds : Nat) (rdf : Nat → Int64) : Option Value → va_W → Prop := fun rr ww => (rr = some (.int (nI 0)) ∧ ww = [(o, .inr (7, [.ref n0, .ref s0, .ref im, .ref iz, .ref rw, .ref t0, .ref u0, .ref h0, .ref y0, sv])), (rw, .inl (T 5, 4, .inr (.inr (.inr (.inr (va_up (va_up (va_up (va_up (fun _ => none) 0 (some ra0)) 1 (some rb0)) 2 (some rc0)) 3 (some rd0))))))), (ra0, .inr (1, [.int rah, .int (nI raz), .ref ra1, .int (nI ras)])), (ra1, .inl (T 1, 40, .inr (.inl raf))), (rb0, .inr (1, [.int rbh, .int (nI rbz), .ref rb1, .int (nI rbs)])), (rb1, .inl (T 1, 40, .inr (.inl rbf))), (rc0, .inr (1, [.int rch, .int (nI rcz), .ref rc1, .int (nI rcs)])), (rc1, .inl (T 1, 40, .inr (.inl rcf))), (rd0, .inr (1, [.int rdh, .int (nI rdz), .ref rd1, .int (nI rds)])), (rd1, .inl (T 1, 40, .inr (.inl rdf)))] ∧ ¬ row < 0 ∧ ¬ nI 4 ≤ row ∧ (row = nI 0 → ¬ rah = 0) ∧ (row = nI 1 → ¬ rbh = 0) ∧ (row = nI 2 → ¬ rch = 0) ∧ (row = nI 3 → ¬ rdh = 0)) ∨ (∃ (z : Int32), rr = some (.int z) ∧ ww = [(o, .inr (7, [.ref n0, .ref s0, .ref im, .ref iz, .ref rw, .ref t0, .ref u0, .ref h0, .ref y0, sv])), (rw, .inl (T 5, 4, .inr (.inr (.inr (.inr (va_up (va_up (va_up (va_up (fun _ => none) 0 (some ra0)) 1 (some rb0)) 2 (some rc0)) 3 (some rd0))))))), (ra0, .inr (1, [.int rah, .int (nI raz), .ref ra1, .int (nI ras)])), (ra1, .inl (T 1, 40, .inr (.inl raf))), (rb0, .inr (1, [.int rbh, .int (nI rbz), .ref rb1, .int (nI rbs)])), (rb1, .inl (T 1, 40, .inr (.inl rbf))), (rc0, .inr (1, [.int rch, .int (nI rcz), .ref rc1, .int (nI rcs)])), (rc1, .inl (T 1, 40, .inr (.inl rcf))), (rd0, .inr (1, [.int rdh, .int (nI rdz), .ref rd1, .int (nI rds)])), (rd1, .inl (T 1, 40, .inr (.inl rdf)))] ∧ ¬ z = 0 ∧ z = rowWhy row rah rbh rch rdh)
set_option maxHeartbeats 4000000 in
set_option maxRecDepth 100000 in
theorem x_refusedRow (l : Launch) (D : va_G) (T : Nat → ClassId) (o : Nat) (row : Int32) (n0 : Nat) (s0 : Nat) (im : Nat) (iz : Nat) (rw : Nat) (t0 : Nat) (u0 : Nat) (h0 : Nat) (y0 : Nat) (sv : Value) (ra0 : Nat) (rb0 : Nat) (rc0 : Nat) (rd0 : Nat) (rah : Int32) (raz : Nat) (ra1 : Nat) (ras : Nat) (raf : Nat → Int64) (rbh : Int32) (rbz : Nat) (rb1 : Nat) (rbs : Nat) (rbf : Nat → Int64) (rch : Int32) (rcz : Nat) (rc1 : Nat) (rcs : Nat) (rcf : Nat → Int64) (rdh : Int32) (rdz : Nat) (rd1 : Nat) (rds : Nat) (rdf : Nat → Int64) : Ct l yX7_refusedRow cX7_refusedRow 2 (some .int) 1 0 0 D T [.ref o, .int row] [(o, .inr (7, [.ref n0, .ref s0, .ref im, .ref iz, .ref rw, .ref t0, .ref u0, .ref h0, .ref y0, sv])), (rw, .inl (T 5, 4, .inr (.inr (.inr (.inr (va_up (va_up (va_up (va_up (fun _ => none) 0 (some ra0)) 1 (some rb0)) 2 (some rc0)) 3 (some rd0))))))), (ra0, .inr (1, [.int rah, .int (nI raz), .ref ra1, .int (nI ras)])), (ra1, .inl (T 1, 40, .inr (.inl raf))), (rb0, .inr (1, [.int rbh, .int (nI rbz), .ref rb1, .int (nI rbs)])), (rb1, .inl (T 1, 40, .inr (.inl rbf))), (rc0, .inr (1, [.int rch, .int (nI rcz), .ref rc1, .int (nI rcs)])), (rc1, .inl (T 1, 40, .inr (.inl rcf))), (rd0, .inr (1, [.int rdh, .int (nI rdz), .ref rd1, .int (nI rds)])), (rd1, .inl (T 1, 40, .inr (.inl rdf)))] (q_x_refusedRow T o row n0 s0 im iz rw t0 u0 h0 y0 sv ra0 rb0 rc0 rd0 rah raz ra1 ras raf rbh rbz rb1 rbs rbf rch rcz rc1 rcs rcf rdh rdz rd1 rds rdf) := by
  refine Ct.of (cc := cX7_refusedRow) (maxL := 2) (ret := (some .int)) (by decide) (Nat.le_of_ble_eq_true rfl) ?_
  intro p e s m args below meth c A ls hC hnm V hl
  obtain ⟨hx, hb, hr, hml, hown, hts, hlocks⟩ := id hC
  generalize hH : s.heap = H at V ⊢
  clear hH
  have hl : lv_has ls 2 [(0, .ref o), (1, .int row)] := hl
  generalize hlo : ([] : List Loc) = locs at V ⊢
  clear hlo
  refine lv_iload_n hx hb dX7_refusedRow_0 rfl (lv_at hl 1 rfl) ?_
  refine g_callSU (nA := 1) hC V hl.1 (c_isRow l D T row) w_501 w_502 w_2 w_503 (by decide +kernel) rfl ⟨(Nat.le_of_ble_eq_true rfl), (Nat.le_of_ble_eq_true rfl)⟩ [] rfl rfl (Nat.le_of_ble_eq_true rfl) dX7_refusedRow_1 ⟨(Nat.le_of_ble_eq_true rfl), (Nat.le_of_ble_eq_true rfl)⟩ rfl (fun r w1 H locs hQ V => ?_)
  rcases hQ with ⟨rfl, rfl, f_1, f_2⟩ | ⟨rfl, rfl, f_3⟩
  · have V : gW D T A s [(o, .inr (7, [.ref n0, .ref s0, .ref im, .ref iz, .ref rw, .ref t0, .ref u0, .ref h0, .ref y0, sv])), (rw, .inl (T 5, 4, .inr (.inr (.inr (.inr (va_up (va_up (va_up (va_up (fun _ => none) 0 (some ra0)) 1 (some rb0)) 2 (some rc0)) 3 (some rd0))))))), (ra0, .inr (1, [.int rah, .int (nI raz), .ref ra1, .int (nI ras)])), (ra1, .inl (T 1, 40, .inr (.inl raf))), (rb0, .inr (1, [.int rbh, .int (nI rbz), .ref rb1, .int (nI rbs)])), (rb1, .inl (T 1, 40, .inr (.inl rbf))), (rc0, .inr (1, [.int rch, .int (nI rcz), .ref rc1, .int (nI rcs)])), (rc1, .inl (T 1, 40, .inr (.inl rcf))), (rd0, .inr (1, [.int rdh, .int (nI rdz), .ref rd1, .int (nI rds)])), (rd1, .inl (T 1, 40, .inr (.inl rdf)))] H locs := V _ [] rfl rfl rfl (by decide +kernel) rfl
    show W p l e _ s m args below meth c H locs _ _ _ (F0 m 4 ls [.int (nI 1)])
    obtain ⟨j_4, hj_4, ej_4⟩ := g_idx (n := 4) (by decide) f_1 f_2
    rw [ej_4] at hl
    have hj_4 : j_4 = 0 ∨ j_4 = 1 ∨ j_4 = 2 ∨ j_4 = 3 := by omega
    rcases hj_4 with rfl | rfl | rfl | rfl
    · skip
      refine lv_if_ne (tgt := 10) hx hb dX7_refusedRow_4 (by decide) (fun _ => ?_) (fun c => absurd (show (nI 1) = 0 from c) (by decide +kernel))
      refine lv_aload_n hx hb dX7_refusedRow_10 rfl (lv_at hl 0 rfl) ?_
      refine g_get hC V (ci := 7) uwX7 0 rfl rfl 4 (by decide) w_253 rfl rfl dX7_refusedRow_11 ?_
      refine lv_iload_n hx hb dX7_refusedRow_14 rfl (lv_at hl 1 rfl) ?_
      refine g_aald hC V 1 5 rfl rfl (vp_in_nI (by decide) (by decide)) (v := .ref ra0) (by rw [nI_clamp (by decide)]; rfl) dX7_refusedRow_15 ?_
      refine g_get hC V (ci := 1) uwX1 2 rfl rfl 0 (by decide) w_229 rfl rfl dX7_refusedRow_16 ?_
      refine lv_if_eq (tgt := 26) hx hb dX7_refusedRow_19 (by decide) (fun c_5 => ?_) (fun c_5 => ?_)
      · skip
        refine lv_bipush (v := (-6)) hx hb dX7_refusedRow_26 (by decide +kernel) ?_
        exact g_iret (Qr := (q_x_refusedRow T o row n0 s0 im iz rw t0 u0 h0 y0 sv ra0 rb0 rc0 rd0 rah raz ra1 ras raf rbh rbz rb1 rbs rbf rch rcz rc1 rcs rcf rdh rdz rd1 rds rdf)) hC V ⟨(Nat.le_of_ble_eq_true rfl), (Nat.le_of_ble_eq_true rfl)⟩ (.inr ⟨(-6), rfl, rfl, (by decide +kernel), (by first | exact rw_0 (by assumption) (by assumption) | exact rw_1 (by assumption) (by assumption) | exact rw_2 (by assumption) (by assumption) | exact rw_3 (by assumption) (by assumption))⟩) dX7_refusedRow_28
      · skip
        refine lv_iconst (v := (nI 0)) hx hb dX7_refusedRow_22 (by decide +kernel) ?_
        refine lv_goto (tgt := 28) hx hb dX7_refusedRow_23 (by decide) ?_
        exact g_iret (Qr := (q_x_refusedRow T o row n0 s0 im iz rw t0 u0 h0 y0 sv ra0 rb0 rc0 rd0 rah raz ra1 ras raf rbh rbz rb1 rbs rbf rch rcz rc1 rcs rcf rdh rdz rd1 rds rdf)) hC V ⟨(Nat.le_of_ble_eq_true rfl), (Nat.le_of_ble_eq_true rfl)⟩ (.inl ⟨rfl, rfl, (by assumption), (by assumption), (fun h => by first | assumption | (exfalso; exact rw_ne h ej_4 (by decide +kernel))), (fun h => by first | assumption | (exfalso; exact rw_ne h ej_4 (by decide +kernel))), (fun h => by first | assumption | (exfalso; exact rw_ne h ej_4 (by decide +kernel))), (fun h => by first | assumption | (exfalso; exact rw_ne h ej_4 (by decide +kernel)))⟩) dX7_refusedRow_28
    · skip
      refine lv_if_ne (tgt := 10) hx hb dX7_refusedRow_4 (by decide) (fun _ => ?_) (fun c => absurd (show (nI 1) = 0 from c) (by decide +kernel))
      refine lv_aload_n hx hb dX7_refusedRow_10 rfl (lv_at hl 0 rfl) ?_
      refine g_get hC V (ci := 7) uwX7 0 rfl rfl 4 (by decide) w_253 rfl rfl dX7_refusedRow_11 ?_
      refine lv_iload_n hx hb dX7_refusedRow_14 rfl (lv_at hl 1 rfl) ?_
      refine g_aald hC V 1 5 rfl rfl (vp_in_nI (by decide) (by decide)) (v := .ref rb0) (by rw [nI_clamp (by decide)]; rfl) dX7_refusedRow_15 ?_
      refine g_get hC V (ci := 1) uwX1 4 rfl rfl 0 (by decide) w_229 rfl rfl dX7_refusedRow_16 ?_
      refine lv_if_eq (tgt := 26) hx hb dX7_refusedRow_19 (by decide) (fun c_6 => ?_) (fun c_6 => ?_)
      · skip
        refine lv_bipush (v := (-6)) hx hb dX7_refusedRow_26 (by decide +kernel) ?_
        exact g_iret (Qr := (q_x_refusedRow T o row n0 s0 im iz rw t0 u0 h0 y0 sv ra0 rb0 rc0 rd0 rah raz ra1 ras raf rbh rbz rb1 rbs rbf rch rcz rc1 rcs rcf rdh rdz rd1 rds rdf)) hC V ⟨(Nat.le_of_ble_eq_true rfl), (Nat.le_of_ble_eq_true rfl)⟩ (.inr ⟨(-6), rfl, rfl, (by decide +kernel), (by first | exact rw_0 (by assumption) (by assumption) | exact rw_1 (by assumption) (by assumption) | exact rw_2 (by assumption) (by assumption) | exact rw_3 (by assumption) (by assumption))⟩) dX7_refusedRow_28
      · skip
        refine lv_iconst (v := (nI 0)) hx hb dX7_refusedRow_22 (by decide +kernel) ?_
        refine lv_goto (tgt := 28) hx hb dX7_refusedRow_23 (by decide) ?_
        exact g_iret (Qr := (q_x_refusedRow T o row n0 s0 im iz rw t0 u0 h0 y0 sv ra0 rb0 rc0 rd0 rah raz ra1 ras raf rbh rbz rb1 rbs rbf rch rcz rc1 rcs rcf rdh rdz rd1 rds rdf)) hC V ⟨(Nat.le_of_ble_eq_true rfl), (Nat.le_of_ble_eq_true rfl)⟩ (.inl ⟨rfl, rfl, (by assumption), (by assumption), (fun h => by first | assumption | (exfalso; exact rw_ne h ej_4 (by decide +kernel))), (fun h => by first | assumption | (exfalso; exact rw_ne h ej_4 (by decide +kernel))), (fun h => by first | assumption | (exfalso; exact rw_ne h ej_4 (by decide +kernel))), (fun h => by first | assumption | (exfalso; exact rw_ne h ej_4 (by decide +kernel)))⟩) dX7_refusedRow_28
    · skip
      refine lv_if_ne (tgt := 10) hx hb dX7_refusedRow_4 (by decide) (fun _ => ?_) (fun c => absurd (show (nI 1) = 0 from c) (by decide +kernel))
      refine lv_aload_n hx hb dX7_refusedRow_10 rfl (lv_at hl 0 rfl) ?_
      refine g_get hC V (ci := 7) uwX7 0 rfl rfl 4 (by decide) w_253 rfl rfl dX7_refusedRow_11 ?_
      refine lv_iload_n hx hb dX7_refusedRow_14 rfl (lv_at hl 1 rfl) ?_
      refine g_aald hC V 1 5 rfl rfl (vp_in_nI (by decide) (by decide)) (v := .ref rc0) (by rw [nI_clamp (by decide)]; rfl) dX7_refusedRow_15 ?_
      refine g_get hC V (ci := 1) uwX1 6 rfl rfl 0 (by decide) w_229 rfl rfl dX7_refusedRow_16 ?_
      refine lv_if_eq (tgt := 26) hx hb dX7_refusedRow_19 (by decide) (fun c_7 => ?_) (fun c_7 => ?_)
      · skip
        refine lv_bipush (v := (-6)) hx hb dX7_refusedRow_26 (by decide +kernel) ?_
        exact g_iret (Qr := (q_x_refusedRow T o row n0 s0 im iz rw t0 u0 h0 y0 sv ra0 rb0 rc0 rd0 rah raz ra1 ras raf rbh rbz rb1 rbs rbf rch rcz rc1 rcs rcf rdh rdz rd1 rds rdf)) hC V ⟨(Nat.le_of_ble_eq_true rfl), (Nat.le_of_ble_eq_true rfl)⟩ (.inr ⟨(-6), rfl, rfl, (by decide +kernel), (by first | exact rw_0 (by assumption) (by assumption) | exact rw_1 (by assumption) (by assumption) | exact rw_2 (by assumption) (by assumption) | exact rw_3 (by assumption) (by assumption))⟩) dX7_refusedRow_28
      · skip
        refine lv_iconst (v := (nI 0)) hx hb dX7_refusedRow_22 (by decide +kernel) ?_
        refine lv_goto (tgt := 28) hx hb dX7_refusedRow_23 (by decide) ?_
        exact g_iret (Qr := (q_x_refusedRow T o row n0 s0 im iz rw t0 u0 h0 y0 sv ra0 rb0 rc0 rd0 rah raz ra1 ras raf rbh rbz rb1 rbs rbf rch rcz rc1 rcs rcf rdh rdz rd1 rds rdf)) hC V ⟨(Nat.le_of_ble_eq_true rfl), (Nat.le_of_ble_eq_true rfl)⟩ (.inl ⟨rfl, rfl, (by assumption), (by assumption), (fun h => by first | assumption | (exfalso; exact rw_ne h ej_4 (by decide +kernel))), (fun h => by first | assumption | (exfalso; exact rw_ne h ej_4 (by decide +kernel))), (fun h => by first | assumption | (exfalso; exact rw_ne h ej_4 (by decide +kernel))), (fun h => by first | assumption | (exfalso; exact rw_ne h ej_4 (by decide +kernel)))⟩) dX7_refusedRow_28
    · skip
      refine lv_if_ne (tgt := 10) hx hb dX7_refusedRow_4 (by decide) (fun _ => ?_) (fun c => absurd (show (nI 1) = 0 from c) (by decide +kernel))
      refine lv_aload_n hx hb dX7_refusedRow_10 rfl (lv_at hl 0 rfl) ?_
      refine g_get hC V (ci := 7) uwX7 0 rfl rfl 4 (by decide) w_253 rfl rfl dX7_refusedRow_11 ?_
      refine lv_iload_n hx hb dX7_refusedRow_14 rfl (lv_at hl 1 rfl) ?_
      refine g_aald hC V 1 5 rfl rfl (vp_in_nI (by decide) (by decide)) (v := .ref rd0) (by rw [nI_clamp (by decide)]; rfl) dX7_refusedRow_15 ?_
      refine g_get hC V (ci := 1) uwX1 8 rfl rfl 0 (by decide) w_229 rfl rfl dX7_refusedRow_16 ?_
      refine lv_if_eq (tgt := 26) hx hb dX7_refusedRow_19 (by decide) (fun c_8 => ?_) (fun c_8 => ?_)
      · skip
        refine lv_bipush (v := (-6)) hx hb dX7_refusedRow_26 (by decide +kernel) ?_
        exact g_iret (Qr := (q_x_refusedRow T o row n0 s0 im iz rw t0 u0 h0 y0 sv ra0 rb0 rc0 rd0 rah raz ra1 ras raf rbh rbz rb1 rbs rbf rch rcz rc1 rcs rcf rdh rdz rd1 rds rdf)) hC V ⟨(Nat.le_of_ble_eq_true rfl), (Nat.le_of_ble_eq_true rfl)⟩ (.inr ⟨(-6), rfl, rfl, (by decide +kernel), (by first | exact rw_0 (by assumption) (by assumption) | exact rw_1 (by assumption) (by assumption) | exact rw_2 (by assumption) (by assumption) | exact rw_3 (by assumption) (by assumption))⟩) dX7_refusedRow_28
      · skip
        refine lv_iconst (v := (nI 0)) hx hb dX7_refusedRow_22 (by decide +kernel) ?_
        refine lv_goto (tgt := 28) hx hb dX7_refusedRow_23 (by decide) ?_
        exact g_iret (Qr := (q_x_refusedRow T o row n0 s0 im iz rw t0 u0 h0 y0 sv ra0 rb0 rc0 rd0 rah raz ra1 ras raf rbh rbz rb1 rbs rbf rch rcz rc1 rcs rcf rdh rdz rd1 rds rdf)) hC V ⟨(Nat.le_of_ble_eq_true rfl), (Nat.le_of_ble_eq_true rfl)⟩ (.inl ⟨rfl, rfl, (by assumption), (by assumption), (fun h => by first | assumption | (exfalso; exact rw_ne h ej_4 (by decide +kernel))), (fun h => by first | assumption | (exfalso; exact rw_ne h ej_4 (by decide +kernel))), (fun h => by first | assumption | (exfalso; exact rw_ne h ej_4 (by decide +kernel))), (fun h => by first | assumption | (exfalso; exact rw_ne h ej_4 (by decide +kernel)))⟩) dX7_refusedRow_28
  · have V : gW D T A s [(o, .inr (7, [.ref n0, .ref s0, .ref im, .ref iz, .ref rw, .ref t0, .ref u0, .ref h0, .ref y0, sv])), (rw, .inl (T 5, 4, .inr (.inr (.inr (.inr (va_up (va_up (va_up (va_up (fun _ => none) 0 (some ra0)) 1 (some rb0)) 2 (some rc0)) 3 (some rd0))))))), (ra0, .inr (1, [.int rah, .int (nI raz), .ref ra1, .int (nI ras)])), (ra1, .inl (T 1, 40, .inr (.inl raf))), (rb0, .inr (1, [.int rbh, .int (nI rbz), .ref rb1, .int (nI rbs)])), (rb1, .inl (T 1, 40, .inr (.inl rbf))), (rc0, .inr (1, [.int rch, .int (nI rcz), .ref rc1, .int (nI rcs)])), (rc1, .inl (T 1, 40, .inr (.inl rcf))), (rd0, .inr (1, [.int rdh, .int (nI rdz), .ref rd1, .int (nI rds)])), (rd1, .inl (T 1, 40, .inr (.inl rdf)))] H locs := V _ [] rfl rfl rfl (by decide +kernel) rfl
    show W p l e _ s m args below meth c H locs _ _ _ (F0 m 4 ls [.int (nI 0)])
    refine lv_if_ne (tgt := 10) hx hb dX7_refusedRow_4 (by decide) (fun c => absurd (show (nI 0) = 0 by decide +kernel) c) (fun _ => ?_)
    refine lv_bipush (v := (-2)) hx hb dX7_refusedRow_7 (by decide +kernel) ?_
    exact g_iret (Qr := (q_x_refusedRow T o row n0 s0 im iz rw t0 u0 h0 y0 sv ra0 rb0 rc0 rd0 rah raz ra1 ras raf rbh rbz rb1 rbs rbf rch rcz rc1 rcs rcf rdh rdz rd1 rds rdf)) hC V ⟨(Nat.le_of_ble_eq_true rfl), (Nat.le_of_ble_eq_true rfl)⟩ (.inr ⟨(-2), rfl, rfl, (by decide +kernel), (rw_out (by assumption))⟩) dX7_refusedRow_9


def q_x_bestRound (T : Nat → ClassId) (o : Nat) (le : Int32) (wh : Int32) (n0 : Nat) (s0 : Nat) (im : Nat) (iz : Nat) (rw : Nat) (t0 : Nat) (u0 : Nat) (h0 : Nat) (y0 : Nat) (sv : Value) (h1 : Nat) (qx : Int32) (qy : Int32) (ql : Int32) (h2 : Nat) (h3 : Nat) (qb : Nat → Int32) (qp : Nat → Int32) (qc : Nat → Int32) (nn : Nat) (nm : Int32) (nl : Int32) (no : Int32) (nu : Int32) (n1 : Nat) (n2 : Nat) (n3 : Nat) (n4 : Nat) (n5 : Nat) (n6 : Nat) (n7 : Nat) (n8 : Nat) (n9 : Nat) (n10 : Nat) (nf1 : Nat → Int32) (nf2 : Nat → Int32) (nf3 : Nat → Int32) (nf4 : Nat → Int32) (nf5 : Nat → Int32) (nf9 : Nat → Int32) : Option Value → va_W → Prop := fun rr ww => (∃ (z : Int32) (x1 : Int32) (x2 : Int32) (x3 : Int32) (k1 : Nat → Int32) (k2 : Nat → Int32) (k3 : Nat → Int32), rr = some (.int z) ∧ ww = [(o, .inr (7, [.ref n0, .ref s0, .ref im, .ref iz, .ref rw, .ref t0, .ref u0, .ref h0, .ref y0, sv])), (h0, .inr (3, [.ref h1, .int x1, .int x2, .int x3, .ref h2, .ref h3])), (h1, .inl (T 0, 10, .inl k1)), (h2, .inl (T 0, 10, .inl k2)), (h3, .inl (T 0, 12, .inl k3)), (n0, .inr (5, [.int (nI nn), .int nm, .int nl, .int no, .int nu, .ref n1, .ref n2, .ref n3, .ref n4, .ref n5, .ref n6, .ref n7, .ref n8, .ref n9, .ref n10])), (n1, .inl (T 0, 10, .inl nf1)), (n2, .inl (T 0, 10, .inl nf2)), (n3, .inl (T 0, 10, .inl nf3)), (n4, .inl (T 0, 10, .inl nf4)), (n5, .inl (T 0, 10, .inl nf5)), (n9, .inl (T 0, 10, .inl nf9))])
set_option maxHeartbeats 4000000 in
set_option maxRecDepth 100000 in
theorem x_bestRound (l : Launch) (D : va_G) (T : Nat → ClassId) (o : Nat) (le : Int32) (wh : Int32) (n0 : Nat) (s0 : Nat) (im : Nat) (iz : Nat) (rw : Nat) (t0 : Nat) (u0 : Nat) (h0 : Nat) (y0 : Nat) (sv : Value) (h1 : Nat) (qx : Int32) (qy : Int32) (ql : Int32) (h2 : Nat) (h3 : Nat) (qb : Nat → Int32) (qp : Nat → Int32) (qc : Nat → Int32) (nn : Nat) (nm : Int32) (nl : Int32) (no : Int32) (nu : Int32) (n1 : Nat) (n2 : Nat) (n3 : Nat) (n4 : Nat) (n5 : Nat) (n6 : Nat) (n7 : Nat) (n8 : Nat) (n9 : Nat) (n10 : Nat) (nf1 : Nat → Int32) (nf2 : Nat → Int32) (nf3 : Nat → Int32) (nf4 : Nat → Int32) (nf5 : Nat → Int32) (nf9 : Nat → Int32) (h_n : nn ≤ 10) : Ct l yX7_bestRound cX7_bestRound 4 (some .int) 5 0 0 D T [.ref o, .int le, .int wh] [(o, .inr (7, [.ref n0, .ref s0, .ref im, .ref iz, .ref rw, .ref t0, .ref u0, .ref h0, .ref y0, sv])), (h0, .inr (3, [.ref h1, .int qx, .int qy, .int ql, .ref h2, .ref h3])), (h1, .inl (T 0, 10, .inl qb)), (h2, .inl (T 0, 10, .inl qp)), (h3, .inl (T 0, 12, .inl qc)), (n0, .inr (5, [.int (nI nn), .int nm, .int nl, .int no, .int nu, .ref n1, .ref n2, .ref n3, .ref n4, .ref n5, .ref n6, .ref n7, .ref n8, .ref n9, .ref n10])), (n1, .inl (T 0, 10, .inl nf1)), (n2, .inl (T 0, 10, .inl nf2)), (n3, .inl (T 0, 10, .inl nf3)), (n4, .inl (T 0, 10, .inl nf4)), (n5, .inl (T 0, 10, .inl nf5)), (n9, .inl (T 0, 10, .inl nf9))] (q_x_bestRound T o le wh n0 s0 im iz rw t0 u0 h0 y0 sv h1 qx qy ql h2 h3 qb qp qc nn nm nl no nu n1 n2 n3 n4 n5 n6 n7 n8 n9 n10 nf1 nf2 nf3 nf4 nf5 nf9) := by
  refine Ct.of (cc := cX7_bestRound) (maxL := 4) (ret := (some .int)) (by decide) (Nat.le_of_ble_eq_true rfl) ?_
  intro p e s m args below meth c A ls hC hnm V hl
  obtain ⟨hx, hb, hr, hml, hown, hts, hlocks⟩ := id hC
  generalize hH : s.heap = H at V ⊢
  clear hH
  have hl : lv_has ls 4 [(0, .ref o), (1, .int le), (2, .int wh)] := hl
  generalize hlo : ([] : List Loc) = locs at V ⊢
  clear hlo
  refine lv_iload_n hx hb dX7_bestRound_0 rfl (lv_at hl 2 rfl) ?_
  refine lv_if_eq (tgt := 21) hx hb dX7_bestRound_1 (by decide) (fun c_1 => ?_) (fun c_1 => ?_)
  · skip
    refine lv_iload_n hx hb dX7_bestRound_21 rfl (lv_at hl 1 rfl) ?_
    refine lv_iconst (v := (nI 1)) hx hb dX7_bestRound_22 (by decide +kernel) ?_
    refine lv_bipush (v := (nI 10)) hx hb dX7_bestRound_23 (by decide +kernel) ?_
    refine g_callSU (nA := 3) hC V hl.1 (c_isWithin l D T le (nI 1) (nI 10)) w_292 w_293 w_2 w_294 (by decide +kernel) rfl ⟨(Nat.le_of_ble_eq_true rfl), (Nat.le_of_ble_eq_true rfl)⟩ [] rfl rfl (Nat.le_of_ble_eq_true rfl) dX7_bestRound_25 ⟨(Nat.le_of_ble_eq_true rfl), (Nat.le_of_ble_eq_true rfl)⟩ rfl (fun r w1 H locs hQ V => ?_)
    rcases hQ with ⟨rfl, rfl, f_2, f_3⟩ | ⟨rfl, rfl, f_4⟩
    · have V : gW D T A s [(o, .inr (7, [.ref n0, .ref s0, .ref im, .ref iz, .ref rw, .ref t0, .ref u0, .ref h0, .ref y0, sv])), (h0, .inr (3, [.ref h1, .int qx, .int qy, .int ql, .ref h2, .ref h3])), (h1, .inl (T 0, 10, .inl qb)), (h2, .inl (T 0, 10, .inl qp)), (h3, .inl (T 0, 12, .inl qc)), (n0, .inr (5, [.int (nI nn), .int nm, .int nl, .int no, .int nu, .ref n1, .ref n2, .ref n3, .ref n4, .ref n5, .ref n6, .ref n7, .ref n8, .ref n9, .ref n10])), (n1, .inl (T 0, 10, .inl nf1)), (n2, .inl (T 0, 10, .inl nf2)), (n3, .inl (T 0, 10, .inl nf3)), (n4, .inl (T 0, 10, .inl nf4)), (n5, .inl (T 0, 10, .inl nf5)), (n9, .inl (T 0, 10, .inl nf9))] H locs := V _ [] rfl rfl rfl (by decide +kernel) rfl
      show W p l e _ s m args below meth c H locs _ _ _ (F0 m 28 ls [.int (nI 1)])
      obtain ⟨i, hi1, hi2, ei⟩ := g_rng (by first | decide | omega) (by first | decide | omega) f_2 f_3
      rw [ei] at hl
      have hmul : nn * i ≤ 10 * 10 := Nat.mul_le_mul h_n (by omega)
      refine lv_if_ne (tgt := 34) hx hb dX7_bestRound_28 (by decide) (fun _ => ?_) (fun c => absurd (show (nI 1) = 0 from c) (by decide +kernel))
      refine lv_aload_n hx hb dX7_bestRound_34 rfl (lv_at hl 0 rfl) ?_
      refine g_get hC V (ci := 7) uwX7 0 rfl rfl 0 (by decide) w_249 rfl rfl dX7_bestRound_35 ?_
      refine g_get hC V (ci := 5) uwX5 5 rfl rfl 0 (by decide) w_38 rfl rfl dX7_bestRound_38 ?_
      refine lv_iload_n hx hb dX7_bestRound_41 rfl (lv_at hl 1 rfl) ?_
      refine lv_imul hx hb dX7_bestRound_42 ?_
      refine g_vi (y := (nI (nn * i))) (pk_mul _ _) ?_
      refine lv_bipush (v := (nI 10)) hx hb dX7_bestRound_43 (by decide +kernel) ?_
      refine lv_icmp_le (tgt := 51) hx hb dX7_bestRound_45 (by decide) (fun c_5 => ?_) (fun c_5 => ?_)
      · skip
        have c_5 := b_le (by omega) (by omega) c_5
        refine lv_aload_n hx hb dX7_bestRound_51 rfl (lv_at hl 0 rfl) ?_
        refine g_get hC V (ci := 7) uwX7 0 rfl rfl 7 (by decide) w_256 rfl rfl dX7_bestRound_52 ?_
        refine lv_aload_n hx hb dX7_bestRound_55 rfl (lv_at hl 0 rfl) ?_
        refine g_get hC V (ci := 7) uwX7 0 rfl rfl 0 (by decide) w_249 rfl rfl dX7_bestRound_56 ?_
        refine lv_iload_n hx hb dX7_bestRound_59 rfl (lv_at hl 1 rfl) ?_
        refine g_callVU (nA := 2) hC V hl.1 (h_seekBest l D T h0 n0 i h1 qx qy ql h2 h3 qb qp qc nn nm nl no nu n1 n2 n3 n4 n5 n6 n7 n8 n9 n10 nf1 nf2 nf3 nf4 nf5 nf9 (by first | assumption | omega) ⟨by omega, by omega⟩ (by assumption)) w_656 w_657 w_658 w_6 w_659 (by decide +kernel) rfl ⟨(Nat.le_of_ble_eq_true rfl), (Nat.le_of_ble_eq_true rfl)⟩ 1 (ci := 3) rfl rfl [1, 2, 3, 4, 5, 6, 7, 8, 9, 10, 11] rfl rfl (Nat.le_of_ble_eq_true rfl) dX7_bestRound_60 ⟨(Nat.le_of_ble_eq_true rfl), (Nat.le_of_ble_eq_true rfl)⟩ rfl (fun r w1 H locs hQ V => ?_)
        obtain ⟨z_6, g1_7, g2_8, g3_9, rfl, rfl⟩ := hQ
        have V : gW D T A s [(o, .inr (7, [.ref n0, .ref s0, .ref im, .ref iz, .ref rw, .ref t0, .ref u0, .ref h0, .ref y0, sv])), (h0, .inr (3, [.ref h1, .int qx, .int qy, .int (nI i), .ref h2, .ref h3])), (h1, .inl (T 0, 10, .inl g1_7)), (h2, .inl (T 0, 10, .inl g2_8)), (h3, .inl (T 0, 12, .inl g3_9)), (n0, .inr (5, [.int (nI nn), .int nm, .int nl, .int no, .int nu, .ref n1, .ref n2, .ref n3, .ref n4, .ref n5, .ref n6, .ref n7, .ref n8, .ref n9, .ref n10])), (n1, .inl (T 0, 10, .inl nf1)), (n2, .inl (T 0, 10, .inl nf2)), (n3, .inl (T 0, 10, .inl nf3)), (n4, .inl (T 0, 10, .inl nf4)), (n5, .inl (T 0, 10, .inl nf5)), (n9, .inl (T 0, 10, .inl nf9))] H locs := V _ [1, 0, 0, 0, 0, 0, 0, 0, 0, 0, 0] rfl rfl rfl (by decide +kernel) rfl
        show W p l e _ s m args below meth c H locs _ _ _ (F0 m 63 ls [.int z_6])
        refine lv_istore_n (lv' := [(3, .int z_6), (0, .ref o), (1, .int (nI i)), (2, .int wh)]) hx hb dX7_bestRound_63 rfl hl (by decide) rfl (fun ls hl => ?_)
        refine lv_iload_n hx hb dX7_bestRound_64 rfl (lv_at hl 3 rfl) ?_
        refine lv_if_eq (tgt := 73) hx hb dX7_bestRound_65 (by decide) (fun c_10 => ?_) (fun c_10 => ?_)
        · skip
          refine lv_iload_n hx hb dX7_bestRound_73 rfl (lv_at hl 0 rfl) ?_
          refine lv_goto (tgt := 89) hx hb dX7_bestRound_74 (by decide) ?_
          exact g_iret (Qr := (q_x_bestRound T o le wh n0 s0 im iz rw t0 u0 h0 y0 sv h1 qx qy ql h2 h3 qb qp qc nn nm nl no nu n1 n2 n3 n4 n5 n6 n7 n8 n9 n10 nf1 nf2 nf3 nf4 nf5 nf9)) hC V ⟨(Nat.le_of_ble_eq_true rfl), (Nat.le_of_ble_eq_true rfl)⟩ ⟨z_6, qx, qy, (nI i), g1_7, g2_8, g3_9, rfl, rfl⟩ dX7_bestRound_89
        · skip
          refine lv_iload_n hx hb dX7_bestRound_68 rfl (lv_at hl 0 rfl) ?_
          refine lv_iconst (v := (-1)) hx hb dX7_bestRound_69 (by decide +kernel) ?_
          refine lv_icmp_ne (tgt := 77) hx hb dX7_bestRound_70 (by decide) (fun c_11 => ?_) (fun c_11 => ?_)
          · skip
            refine lv_aload_n hx hb dX7_bestRound_77 rfl (lv_at hl 1 rfl) ?_
            refine g_get hC V (ci := 7) uwX7 0 rfl rfl 7 (by decide) w_256 rfl rfl dX7_bestRound_78 ?_
            refine g_get hC V (ci := 3) uwX3 1 rfl rfl 0 (by decide) w_184 rfl rfl dX7_bestRound_81 ?_
            refine lv_iload_n hx hb dX7_bestRound_84 rfl (lv_at hl 3 rfl) ?_
            refine lv_bipush (v := (nI 10)) hx hb dX7_bestRound_85 (by decide +kernel) ?_
            refine lv_isub hx hb dX7_bestRound_87 ?_
            exact absurd (by assumption) ‹¬ wh = 0›
          · skip
            refine lv_iload_n hx hb dX7_bestRound_73 rfl (lv_at hl 0 rfl) ?_
            refine lv_goto (tgt := 89) hx hb dX7_bestRound_74 (by decide) ?_
            exact g_iret (Qr := (q_x_bestRound T o le wh n0 s0 im iz rw t0 u0 h0 y0 sv h1 qx qy ql h2 h3 qb qp qc nn nm nl no nu n1 n2 n3 n4 n5 n6 n7 n8 n9 n10 nf1 nf2 nf3 nf4 nf5 nf9)) hC V ⟨(Nat.le_of_ble_eq_true rfl), (Nat.le_of_ble_eq_true rfl)⟩ ⟨z_6, qx, qy, (nI i), g1_7, g2_8, g3_9, rfl, rfl⟩ dX7_bestRound_89
      · skip
        have c_5 := b_nle (by omega) (by omega) c_5
        refine lv_bipush (v := (-4)) hx hb dX7_bestRound_48 (by decide +kernel) ?_
        exact g_iret (Qr := (q_x_bestRound T o le wh n0 s0 im iz rw t0 u0 h0 y0 sv h1 qx qy ql h2 h3 qb qp qc nn nm nl no nu n1 n2 n3 n4 n5 n6 n7 n8 n9 n10 nf1 nf2 nf3 nf4 nf5 nf9)) hC V ⟨(Nat.le_of_ble_eq_true rfl), (Nat.le_of_ble_eq_true rfl)⟩ ⟨(-4), qx, qy, ql, qb, qp, qc, rfl, rfl⟩ dX7_bestRound_50
    · have V : gW D T A s [(o, .inr (7, [.ref n0, .ref s0, .ref im, .ref iz, .ref rw, .ref t0, .ref u0, .ref h0, .ref y0, sv])), (h0, .inr (3, [.ref h1, .int qx, .int qy, .int ql, .ref h2, .ref h3])), (h1, .inl (T 0, 10, .inl qb)), (h2, .inl (T 0, 10, .inl qp)), (h3, .inl (T 0, 12, .inl qc)), (n0, .inr (5, [.int (nI nn), .int nm, .int nl, .int no, .int nu, .ref n1, .ref n2, .ref n3, .ref n4, .ref n5, .ref n6, .ref n7, .ref n8, .ref n9, .ref n10])), (n1, .inl (T 0, 10, .inl nf1)), (n2, .inl (T 0, 10, .inl nf2)), (n3, .inl (T 0, 10, .inl nf3)), (n4, .inl (T 0, 10, .inl nf4)), (n5, .inl (T 0, 10, .inl nf5)), (n9, .inl (T 0, 10, .inl nf9))] H locs := V _ [] rfl rfl rfl (by decide +kernel) rfl
      show W p l e _ s m args below meth c H locs _ _ _ (F0 m 28 ls [.int (nI 0)])
      refine lv_if_ne (tgt := 34) hx hb dX7_bestRound_28 (by decide) (fun c => absurd (show (nI 0) = 0 by decide +kernel) c) (fun _ => ?_)
      refine lv_bipush (v := (-3)) hx hb dX7_bestRound_31 (by decide +kernel) ?_
      exact g_iret (Qr := (q_x_bestRound T o le wh n0 s0 im iz rw t0 u0 h0 y0 sv h1 qx qy ql h2 h3 qb qp qc nn nm nl no nu n1 n2 n3 n4 n5 n6 n7 n8 n9 n10 nf1 nf2 nf3 nf4 nf5 nf9)) hC V ⟨(Nat.le_of_ble_eq_true rfl), (Nat.le_of_ble_eq_true rfl)⟩ ⟨(-3), qx, qy, ql, qb, qp, qc, rfl, rfl⟩ dX7_bestRound_33
  · skip
    refine lv_aload_n hx hb dX7_bestRound_4 rfl (lv_at hl 0 rfl) ?_
    refine g_get hC V (ci := 7) uwX7 0 rfl rfl 0 (by decide) w_249 rfl rfl dX7_bestRound_5 ?_
    refine lv_iload_n hx hb dX7_bestRound_8 rfl (lv_at hl 2 rfl) ?_
    refine lv_bipush (v := (nI 10)) hx hb dX7_bestRound_9 (by decide +kernel) ?_
    refine lv_isub hx hb dX7_bestRound_11 ?_
    refine g_callVU (nA := 1) hC V hl.1 (s_isSmith l D T n0 (wh - (nI 10)) nn nm nl no nu n1 n2 n3 n4 n5 n6 n7 n8 n9 n10 (by first | assumption | omega)) w_425 w_426 w_427 w_3 w_428 (by decide +kernel) rfl ⟨(Nat.le_of_ble_eq_true rfl), (Nat.le_of_ble_eq_true rfl)⟩ 5 (ci := 5) rfl rfl [5] rfl rfl (Nat.le_of_ble_eq_true rfl) dX7_bestRound_12 ⟨(Nat.le_of_ble_eq_true rfl), (Nat.le_of_ble_eq_true rfl)⟩ rfl (fun r w1 H locs hQ V => ?_)
    rcases hQ with ⟨j_12, rfl, rfl, f_13, f_14⟩ | ⟨rfl, rfl, f_15⟩
    · have V : gW D T A s [(o, .inr (7, [.ref n0, .ref s0, .ref im, .ref iz, .ref rw, .ref t0, .ref u0, .ref h0, .ref y0, sv])), (h0, .inr (3, [.ref h1, .int qx, .int qy, .int ql, .ref h2, .ref h3])), (h1, .inl (T 0, 10, .inl qb)), (h2, .inl (T 0, 10, .inl qp)), (h3, .inl (T 0, 12, .inl qc)), (n0, .inr (5, [.int (nI nn), .int nm, .int nl, .int no, .int nu, .ref n1, .ref n2, .ref n3, .ref n4, .ref n5, .ref n6, .ref n7, .ref n8, .ref n9, .ref n10])), (n1, .inl (T 0, 10, .inl nf1)), (n2, .inl (T 0, 10, .inl nf2)), (n3, .inl (T 0, 10, .inl nf3)), (n4, .inl (T 0, 10, .inl nf4)), (n5, .inl (T 0, 10, .inl nf5)), (n9, .inl (T 0, 10, .inl nf9))] H locs := V _ [5] rfl rfl rfl (by decide +kernel) rfl
      show W p l e _ s m args below meth c H locs _ _ _ (F0 m 15 ls [.int (nI 1)])
      refine lv_if_ne (tgt := 21) hx hb dX7_bestRound_15 (by decide) (fun _ => ?_) (fun c => absurd (show (nI 1) = 0 from c) (by decide +kernel))
      refine lv_iload_n hx hb dX7_bestRound_21 rfl (lv_at hl 1 rfl) ?_
      refine lv_iconst (v := (nI 1)) hx hb dX7_bestRound_22 (by decide +kernel) ?_
      refine lv_bipush (v := (nI 10)) hx hb dX7_bestRound_23 (by decide +kernel) ?_
      refine g_callSU (nA := 3) hC V hl.1 (c_isWithin l D T le (nI 1) (nI 10)) w_292 w_293 w_2 w_294 (by decide +kernel) rfl ⟨(Nat.le_of_ble_eq_true rfl), (Nat.le_of_ble_eq_true rfl)⟩ [] rfl rfl (Nat.le_of_ble_eq_true rfl) dX7_bestRound_25 ⟨(Nat.le_of_ble_eq_true rfl), (Nat.le_of_ble_eq_true rfl)⟩ rfl (fun r w1 H locs hQ V => ?_)
      rcases hQ with ⟨rfl, rfl, f_16, f_17⟩ | ⟨rfl, rfl, f_18⟩
      · have V : gW D T A s [(o, .inr (7, [.ref n0, .ref s0, .ref im, .ref iz, .ref rw, .ref t0, .ref u0, .ref h0, .ref y0, sv])), (h0, .inr (3, [.ref h1, .int qx, .int qy, .int ql, .ref h2, .ref h3])), (h1, .inl (T 0, 10, .inl qb)), (h2, .inl (T 0, 10, .inl qp)), (h3, .inl (T 0, 12, .inl qc)), (n0, .inr (5, [.int (nI nn), .int nm, .int nl, .int no, .int nu, .ref n1, .ref n2, .ref n3, .ref n4, .ref n5, .ref n6, .ref n7, .ref n8, .ref n9, .ref n10])), (n1, .inl (T 0, 10, .inl nf1)), (n2, .inl (T 0, 10, .inl nf2)), (n3, .inl (T 0, 10, .inl nf3)), (n4, .inl (T 0, 10, .inl nf4)), (n5, .inl (T 0, 10, .inl nf5)), (n9, .inl (T 0, 10, .inl nf9))] H locs := V _ [] rfl rfl rfl (by decide +kernel) rfl
        show W p l e _ s m args below meth c H locs _ _ _ (F0 m 28 ls [.int (nI 1)])
        obtain ⟨i, hi1, hi2, ei⟩ := g_rng (by first | decide | omega) (by first | decide | omega) f_16 f_17
        rw [ei] at hl
        have hmul : nn * i ≤ 10 * 10 := Nat.mul_le_mul h_n (by omega)
        refine lv_if_ne (tgt := 34) hx hb dX7_bestRound_28 (by decide) (fun _ => ?_) (fun c => absurd (show (nI 1) = 0 from c) (by decide +kernel))
        refine lv_aload_n hx hb dX7_bestRound_34 rfl (lv_at hl 0 rfl) ?_
        refine g_get hC V (ci := 7) uwX7 0 rfl rfl 0 (by decide) w_249 rfl rfl dX7_bestRound_35 ?_
        refine g_get hC V (ci := 5) uwX5 5 rfl rfl 0 (by decide) w_38 rfl rfl dX7_bestRound_38 ?_
        refine lv_iload_n hx hb dX7_bestRound_41 rfl (lv_at hl 1 rfl) ?_
        refine lv_imul hx hb dX7_bestRound_42 ?_
        refine g_vi (y := (nI (nn * i))) (pk_mul _ _) ?_
        refine lv_bipush (v := (nI 10)) hx hb dX7_bestRound_43 (by decide +kernel) ?_
        refine lv_icmp_le (tgt := 51) hx hb dX7_bestRound_45 (by decide) (fun c_19 => ?_) (fun c_19 => ?_)
        · skip
          have c_19 := b_le (by omega) (by omega) c_19
          refine lv_aload_n hx hb dX7_bestRound_51 rfl (lv_at hl 0 rfl) ?_
          refine g_get hC V (ci := 7) uwX7 0 rfl rfl 7 (by decide) w_256 rfl rfl dX7_bestRound_52 ?_
          refine lv_aload_n hx hb dX7_bestRound_55 rfl (lv_at hl 0 rfl) ?_
          refine g_get hC V (ci := 7) uwX7 0 rfl rfl 0 (by decide) w_249 rfl rfl dX7_bestRound_56 ?_
          refine lv_iload_n hx hb dX7_bestRound_59 rfl (lv_at hl 1 rfl) ?_
          refine g_callVU (nA := 2) hC V hl.1 (h_seekBest l D T h0 n0 i h1 qx qy ql h2 h3 qb qp qc nn nm nl no nu n1 n2 n3 n4 n5 n6 n7 n8 n9 n10 nf1 nf2 nf3 nf4 nf5 nf9 (by first | assumption | omega) ⟨by omega, by omega⟩ (by assumption)) w_656 w_657 w_658 w_6 w_659 (by decide +kernel) rfl ⟨(Nat.le_of_ble_eq_true rfl), (Nat.le_of_ble_eq_true rfl)⟩ 1 (ci := 3) rfl rfl [1, 2, 3, 4, 5, 6, 7, 8, 9, 10, 11] rfl rfl (Nat.le_of_ble_eq_true rfl) dX7_bestRound_60 ⟨(Nat.le_of_ble_eq_true rfl), (Nat.le_of_ble_eq_true rfl)⟩ rfl (fun r w1 H locs hQ V => ?_)
          obtain ⟨z_20, g1_21, g2_22, g3_23, rfl, rfl⟩ := hQ
          have V : gW D T A s [(o, .inr (7, [.ref n0, .ref s0, .ref im, .ref iz, .ref rw, .ref t0, .ref u0, .ref h0, .ref y0, sv])), (h0, .inr (3, [.ref h1, .int qx, .int qy, .int (nI i), .ref h2, .ref h3])), (h1, .inl (T 0, 10, .inl g1_21)), (h2, .inl (T 0, 10, .inl g2_22)), (h3, .inl (T 0, 12, .inl g3_23)), (n0, .inr (5, [.int (nI nn), .int nm, .int nl, .int no, .int nu, .ref n1, .ref n2, .ref n3, .ref n4, .ref n5, .ref n6, .ref n7, .ref n8, .ref n9, .ref n10])), (n1, .inl (T 0, 10, .inl nf1)), (n2, .inl (T 0, 10, .inl nf2)), (n3, .inl (T 0, 10, .inl nf3)), (n4, .inl (T 0, 10, .inl nf4)), (n5, .inl (T 0, 10, .inl nf5)), (n9, .inl (T 0, 10, .inl nf9))] H locs := V _ [1, 0, 0, 0, 0, 0, 0, 0, 0, 0, 0] rfl rfl rfl (by decide +kernel) rfl
          show W p l e _ s m args below meth c H locs _ _ _ (F0 m 63 ls [.int z_20])
          refine lv_istore_n (lv' := [(3, .int z_20), (0, .ref o), (1, .int (nI i)), (2, .int wh)]) hx hb dX7_bestRound_63 rfl hl (by decide) rfl (fun ls hl => ?_)
          refine lv_iload_n hx hb dX7_bestRound_64 rfl (lv_at hl 3 rfl) ?_
          refine lv_if_eq (tgt := 73) hx hb dX7_bestRound_65 (by decide) (fun c_24 => ?_) (fun c_24 => ?_)
          · skip
            refine lv_iload_n hx hb dX7_bestRound_73 rfl (lv_at hl 0 rfl) ?_
            refine lv_goto (tgt := 89) hx hb dX7_bestRound_74 (by decide) ?_
            exact g_iret (Qr := (q_x_bestRound T o le wh n0 s0 im iz rw t0 u0 h0 y0 sv h1 qx qy ql h2 h3 qb qp qc nn nm nl no nu n1 n2 n3 n4 n5 n6 n7 n8 n9 n10 nf1 nf2 nf3 nf4 nf5 nf9)) hC V ⟨(Nat.le_of_ble_eq_true rfl), (Nat.le_of_ble_eq_true rfl)⟩ ⟨z_20, qx, qy, (nI i), g1_21, g2_22, g3_23, rfl, rfl⟩ dX7_bestRound_89
          · skip
            refine lv_iload_n hx hb dX7_bestRound_68 rfl (lv_at hl 0 rfl) ?_
            refine lv_iconst (v := (-1)) hx hb dX7_bestRound_69 (by decide +kernel) ?_
            refine lv_icmp_ne (tgt := 77) hx hb dX7_bestRound_70 (by decide) (fun c_25 => ?_) (fun c_25 => ?_)
            · skip
              refine lv_aload_n hx hb dX7_bestRound_77 rfl (lv_at hl 1 rfl) ?_
              refine g_get hC V (ci := 7) uwX7 0 rfl rfl 7 (by decide) w_256 rfl rfl dX7_bestRound_78 ?_
              refine g_get hC V (ci := 3) uwX3 1 rfl rfl 0 (by decide) w_184 rfl rfl dX7_bestRound_81 ?_
              refine lv_iload_n hx hb dX7_bestRound_84 rfl (lv_at hl 3 rfl) ?_
              refine lv_bipush (v := (nI 10)) hx hb dX7_bestRound_85 (by decide +kernel) ?_
              refine lv_isub hx hb dX7_bestRound_87 ?_
              refine g_vi (y := nI j_12) f_13 ?_
              refine g_iald hC V 2 rfl (vp_in_nI (by omega) (by omega)) (v := (g1_21 j_12)) (congrArg _ (nI_clamp (by omega))) dX7_bestRound_88 ?_
              exact g_iret (Qr := (q_x_bestRound T o le wh n0 s0 im iz rw t0 u0 h0 y0 sv h1 qx qy ql h2 h3 qb qp qc nn nm nl no nu n1 n2 n3 n4 n5 n6 n7 n8 n9 n10 nf1 nf2 nf3 nf4 nf5 nf9)) hC V ⟨(Nat.le_of_ble_eq_true rfl), (Nat.le_of_ble_eq_true rfl)⟩ ⟨(g1_21 j_12), qx, qy, (nI i), g1_21, g2_22, g3_23, rfl, rfl⟩ dX7_bestRound_89
            · skip
              refine lv_iload_n hx hb dX7_bestRound_73 rfl (lv_at hl 0 rfl) ?_
              refine lv_goto (tgt := 89) hx hb dX7_bestRound_74 (by decide) ?_
              exact g_iret (Qr := (q_x_bestRound T o le wh n0 s0 im iz rw t0 u0 h0 y0 sv h1 qx qy ql h2 h3 qb qp qc nn nm nl no nu n1 n2 n3 n4 n5 n6 n7 n8 n9 n10 nf1 nf2 nf3 nf4 nf5 nf9)) hC V ⟨(Nat.le_of_ble_eq_true rfl), (Nat.le_of_ble_eq_true rfl)⟩ ⟨z_20, qx, qy, (nI i), g1_21, g2_22, g3_23, rfl, rfl⟩ dX7_bestRound_89
        · skip
          have c_19 := b_nle (by omega) (by omega) c_19
          refine lv_bipush (v := (-4)) hx hb dX7_bestRound_48 (by decide +kernel) ?_
          exact g_iret (Qr := (q_x_bestRound T o le wh n0 s0 im iz rw t0 u0 h0 y0 sv h1 qx qy ql h2 h3 qb qp qc nn nm nl no nu n1 n2 n3 n4 n5 n6 n7 n8 n9 n10 nf1 nf2 nf3 nf4 nf5 nf9)) hC V ⟨(Nat.le_of_ble_eq_true rfl), (Nat.le_of_ble_eq_true rfl)⟩ ⟨(-4), qx, qy, ql, qb, qp, qc, rfl, rfl⟩ dX7_bestRound_50
      · have V : gW D T A s [(o, .inr (7, [.ref n0, .ref s0, .ref im, .ref iz, .ref rw, .ref t0, .ref u0, .ref h0, .ref y0, sv])), (h0, .inr (3, [.ref h1, .int qx, .int qy, .int ql, .ref h2, .ref h3])), (h1, .inl (T 0, 10, .inl qb)), (h2, .inl (T 0, 10, .inl qp)), (h3, .inl (T 0, 12, .inl qc)), (n0, .inr (5, [.int (nI nn), .int nm, .int nl, .int no, .int nu, .ref n1, .ref n2, .ref n3, .ref n4, .ref n5, .ref n6, .ref n7, .ref n8, .ref n9, .ref n10])), (n1, .inl (T 0, 10, .inl nf1)), (n2, .inl (T 0, 10, .inl nf2)), (n3, .inl (T 0, 10, .inl nf3)), (n4, .inl (T 0, 10, .inl nf4)), (n5, .inl (T 0, 10, .inl nf5)), (n9, .inl (T 0, 10, .inl nf9))] H locs := V _ [] rfl rfl rfl (by decide +kernel) rfl
        show W p l e _ s m args below meth c H locs _ _ _ (F0 m 28 ls [.int (nI 0)])
        refine lv_if_ne (tgt := 34) hx hb dX7_bestRound_28 (by decide) (fun c => absurd (show (nI 0) = 0 by decide +kernel) c) (fun _ => ?_)
        refine lv_bipush (v := (-3)) hx hb dX7_bestRound_31 (by decide +kernel) ?_
        exact g_iret (Qr := (q_x_bestRound T o le wh n0 s0 im iz rw t0 u0 h0 y0 sv h1 qx qy ql h2 h3 qb qp qc nn nm nl no nu n1 n2 n3 n4 n5 n6 n7 n8 n9 n10 nf1 nf2 nf3 nf4 nf5 nf9)) hC V ⟨(Nat.le_of_ble_eq_true rfl), (Nat.le_of_ble_eq_true rfl)⟩ ⟨(-3), qx, qy, ql, qb, qp, qc, rfl, rfl⟩ dX7_bestRound_33
    · have V : gW D T A s [(o, .inr (7, [.ref n0, .ref s0, .ref im, .ref iz, .ref rw, .ref t0, .ref u0, .ref h0, .ref y0, sv])), (h0, .inr (3, [.ref h1, .int qx, .int qy, .int ql, .ref h2, .ref h3])), (h1, .inl (T 0, 10, .inl qb)), (h2, .inl (T 0, 10, .inl qp)), (h3, .inl (T 0, 12, .inl qc)), (n0, .inr (5, [.int (nI nn), .int nm, .int nl, .int no, .int nu, .ref n1, .ref n2, .ref n3, .ref n4, .ref n5, .ref n6, .ref n7, .ref n8, .ref n9, .ref n10])), (n1, .inl (T 0, 10, .inl nf1)), (n2, .inl (T 0, 10, .inl nf2)), (n3, .inl (T 0, 10, .inl nf3)), (n4, .inl (T 0, 10, .inl nf4)), (n5, .inl (T 0, 10, .inl nf5)), (n9, .inl (T 0, 10, .inl nf9))] H locs := V _ [5] rfl rfl rfl (by decide +kernel) rfl
      show W p l e _ s m args below meth c H locs _ _ _ (F0 m 15 ls [.int (nI 0)])
      refine lv_if_ne (tgt := 21) hx hb dX7_bestRound_15 (by decide) (fun c => absurd (show (nI 0) = 0 by decide +kernel) c) (fun _ => ?_)
      refine lv_bipush (v := (-2)) hx hb dX7_bestRound_18 (by decide +kernel) ?_
      exact g_iret (Qr := (q_x_bestRound T o le wh n0 s0 im iz rw t0 u0 h0 y0 sv h1 qx qy ql h2 h3 qb qp qc nn nm nl no nu n1 n2 n3 n4 n5 n6 n7 n8 n9 n10 nf1 nf2 nf3 nf4 nf5 nf9)) hC V ⟨(Nat.le_of_ble_eq_true rfl), (Nat.le_of_ble_eq_true rfl)⟩ ⟨(-2), qx, qy, ql, qb, qp, qc, rfl, rfl⟩ dX7_bestRound_20

def q_x_ropes (T : Nat → ClassId) (o : Nat) (wh : Int32) (n0 : Nat) (s0 : Nat) (im : Nat) (iz : Nat) (rw : Nat) (t0 : Nat) (u0 : Nat) (h0 : Nat) (y0 : Nat) (sv : Value) (ys : Int32) (y1 : Nat) (y2 : Nat) (yb : Nat → Int32) (yt : Nat → Int32) (nn : Nat) (nm : Int32) (nl : Int32) (no : Int32) (nu : Int32) (n1 : Nat) (n2 : Nat) (n3 : Nat) (n4 : Nat) (n5 : Nat) (n6 : Nat) (n7 : Nat) (n8 : Nat) (n9 : Nat) (n10 : Nat) (nf1 : Nat → Int32) (nf2 : Nat → Int32) : Option Value → va_W → Prop := fun rr ww => (∃ (z : Int32) (bs : Int32) (k1 : Nat → Int32) (k2 : Nat → Int32), rr = some (.int z) ∧ ww = [(o, .inr (7, [.ref n0, .ref s0, .ref im, .ref iz, .ref rw, .ref t0, .ref u0, .ref h0, .ref y0, sv])), (y0, .inr (0, [.int bs, .ref y1, .ref y2])), (y1, .inl (T 0, 7, .inl k1)), (y2, .inl (T 0, 7, .inl k2)), (n0, .inr (5, [.int (nI nn), .int nm, .int nl, .int no, .int nu, .ref n1, .ref n2, .ref n3, .ref n4, .ref n5, .ref n6, .ref n7, .ref n8, .ref n9, .ref n10])), (n1, .inl (T 0, 10, .inl nf1)), (n2, .inl (T 0, 10, .inl nf2))])
set_option maxHeartbeats 4000000 in
set_option maxRecDepth 100000 in
theorem x_ropes (l : Launch) (D : va_G) (T : Nat → ClassId) (o : Nat) (wh : Int32) (n0 : Nat) (s0 : Nat) (im : Nat) (iz : Nat) (rw : Nat) (t0 : Nat) (u0 : Nat) (h0 : Nat) (y0 : Nat) (sv : Value) (ys : Int32) (y1 : Nat) (y2 : Nat) (yb : Nat → Int32) (yt : Nat → Int32) (nn : Nat) (nm : Int32) (nl : Int32) (no : Int32) (nu : Int32) (n1 : Nat) (n2 : Nat) (n3 : Nat) (n4 : Nat) (n5 : Nat) (n6 : Nat) (n7 : Nat) (n8 : Nat) (n9 : Nat) (n10 : Nat) (nf1 : Nat → Int32) (nf2 : Nat → Int32) (h_n : nn ≤ 10) : Ct l yX7_ropes cX7_ropes 2 (some .int) 11 0 0 D T [.ref o, .int wh] [(o, .inr (7, [.ref n0, .ref s0, .ref im, .ref iz, .ref rw, .ref t0, .ref u0, .ref h0, .ref y0, sv])), (y0, .inr (0, [.int ys, .ref y1, .ref y2])), (y1, .inl (T 0, 7, .inl yb)), (y2, .inl (T 0, 7, .inl yt)), (n0, .inr (5, [.int (nI nn), .int nm, .int nl, .int no, .int nu, .ref n1, .ref n2, .ref n3, .ref n4, .ref n5, .ref n6, .ref n7, .ref n8, .ref n9, .ref n10])), (n1, .inl (T 0, 10, .inl nf1)), (n2, .inl (T 0, 10, .inl nf2))] (q_x_ropes T o wh n0 s0 im iz rw t0 u0 h0 y0 sv ys y1 y2 yb yt nn nm nl no nu n1 n2 n3 n4 n5 n6 n7 n8 n9 n10 nf1 nf2) := by
  refine Ct.of (cc := cX7_ropes) (maxL := 2) (ret := (some .int)) (by decide) (Nat.le_of_ble_eq_true rfl) ?_
  intro p e s m args below meth c A ls hC hnm V hl
  obtain ⟨hx, hb, hr, hml, hown, hts, hlocks⟩ := id hC
  generalize hH : s.heap = H at V ⊢
  clear hH
  have hl : lv_has ls 2 [(0, .ref o), (1, .int wh)] := hl
  generalize hlo : ([] : List Loc) = locs at V ⊢
  clear hlo
  refine lv_iload_n hx hb dX7_ropes_0 rfl (lv_at hl 1 rfl) ?_
  refine lv_if_eq (tgt := 21) hx hb dX7_ropes_1 (by decide) (fun c_1 => ?_) (fun c_1 => ?_)
  · skip
    refine lv_aload_n hx hb dX7_ropes_21 rfl (lv_at hl 0 rfl) ?_
    refine g_get hC V (ci := 7) uwX7 0 rfl rfl 0 (by decide) w_249 rfl rfl dX7_ropes_22 ?_
    refine g_get hC V (ci := 5) uwX5 4 rfl rfl 0 (by decide) w_38 rfl rfl dX7_ropes_25 ?_
    refine lv_bipush (v := (nI 7)) hx hb dX7_ropes_28 (by decide +kernel) ?_
    refine lv_icmp_le (tgt := 36) hx hb dX7_ropes_30 (by decide) (fun c_2 => ?_) (fun c_2 => ?_)
    · skip
      have c_2 := b_le (by omega) (by omega) c_2
      refine lv_aload_n hx hb dX7_ropes_36 rfl (lv_at hl 0 rfl) ?_
      refine g_get hC V (ci := 7) uwX7 0 rfl rfl 0 (by decide) w_249 rfl rfl dX7_ropes_37 ?_
      refine g_get hC V (ci := 5) uwX5 4 rfl rfl 0 (by decide) w_38 rfl rfl dX7_ropes_40 ?_
      refine lv_if_ne (tgt := 49) hx hb dX7_ropes_43 (by decide) (fun c_3 => ?_) (fun c_3 => ?_)
      · skip
        rw [show (0 : Int32) = nI 0 from rfl] at c_3
        have c_3 := b_ne (by omega) (by omega) c_3
        refine lv_aload_n hx hb dX7_ropes_49 rfl (lv_at hl 0 rfl) ?_
        refine g_get hC V (ci := 7) uwX7 0 rfl rfl 8 (by decide) w_257 rfl rfl dX7_ropes_50 ?_
        refine lv_aload_n hx hb dX7_ropes_53 rfl (lv_at hl 0 rfl) ?_
        refine g_get hC V (ci := 7) uwX7 0 rfl rfl 0 (by decide) w_249 rfl rfl dX7_ropes_54 ?_
        refine g_callVU (nA := 1) hC V hl.1 (y_seekBest l D T y0 n0 ys y1 y2 yb yt nn nm nl no nu n1 n2 n3 n4 n5 n6 n7 n8 n9 n10 nf1 nf2 (by first | assumption | omega)) w_799 w_800 w_801 w_7 w_802 (by decide +kernel) rfl ⟨(Nat.le_of_ble_eq_true rfl), (Nat.le_of_ble_eq_true rfl)⟩ 1 (ci := 0) rfl rfl [1, 2, 3, 4, 5, 6] rfl rfl (Nat.le_of_ble_eq_true rfl) dX7_ropes_57 ⟨(Nat.le_of_ble_eq_true rfl), (Nat.le_of_ble_eq_true rfl)⟩ rfl (fun r w1 H locs hQ V => ?_)
        obtain ⟨bs_4, g1_5, g2_6, rfl, rfl, f_7⟩ := hQ
        have V : gW D T A s [(o, .inr (7, [.ref n0, .ref s0, .ref im, .ref iz, .ref rw, .ref t0, .ref u0, .ref h0, .ref y0, sv])), (y0, .inr (0, [.int bs_4, .ref y1, .ref y2])), (y1, .inl (T 0, 7, .inl g1_5)), (y2, .inl (T 0, 7, .inl g2_6)), (n0, .inr (5, [.int (nI nn), .int nm, .int nl, .int no, .int nu, .ref n1, .ref n2, .ref n3, .ref n4, .ref n5, .ref n6, .ref n7, .ref n8, .ref n9, .ref n10])), (n1, .inl (T 0, 10, .inl nf1)), (n2, .inl (T 0, 10, .inl nf2))] H locs := V _ [1, 0, 0, 0, 0, 0] rfl rfl rfl (by decide +kernel) rfl
        show W p l e _ s m args below meth c H locs _ _ _ (F0 m 60 ls [])
        refine lv_iload_n hx hb dX7_ropes_60 rfl (lv_at hl 1 rfl) ?_
        refine lv_if_ne (tgt := 74) hx hb dX7_ropes_61 (by decide) (fun c_8 => ?_) (fun c_8 => ?_)
        · skip
          refine lv_aload_n hx hb dX7_ropes_74 rfl (lv_at hl 0 rfl) ?_
          refine g_get hC V (ci := 7) uwX7 0 rfl rfl 8 (by decide) w_257 rfl rfl dX7_ropes_75 ?_
          refine g_get hC V (ci := 0) uwX0 1 rfl rfl 1 (by decide) w_214 rfl rfl dX7_ropes_78 ?_
          refine lv_iload_n hx hb dX7_ropes_81 rfl (lv_at hl 1 rfl) ?_
          refine lv_bipush (v := (nI 10)) hx hb dX7_ropes_82 (by decide +kernel) ?_
          refine lv_isub hx hb dX7_ropes_84 ?_
          exact absurd (by assumption) ‹¬ wh = 0›
        · skip
          refine lv_aload_n hx hb dX7_ropes_64 rfl (lv_at hl 0 rfl) ?_
          refine g_get hC V (ci := 7) uwX7 0 rfl rfl 8 (by decide) w_257 rfl rfl dX7_ropes_65 ?_
          refine g_get hC V (ci := 0) uwX0 1 rfl rfl 0 (by decide) w_212 rfl rfl dX7_ropes_68 ?_
          refine lv_goto (tgt := 86) hx hb dX7_ropes_71 (by decide) ?_
          exact g_iret (Qr := (q_x_ropes T o wh n0 s0 im iz rw t0 u0 h0 y0 sv ys y1 y2 yb yt nn nm nl no nu n1 n2 n3 n4 n5 n6 n7 n8 n9 n10 nf1 nf2)) hC V ⟨(Nat.le_of_ble_eq_true rfl), (Nat.le_of_ble_eq_true rfl)⟩ ⟨bs_4, bs_4, g1_5, g2_6, rfl, rfl⟩ dX7_ropes_86
      · skip
        rw [show (0 : Int32) = nI 0 from rfl] at c_3
        have c_3 := b_eq (by omega) (by omega) c_3
        refine lv_bipush (v := (-5)) hx hb dX7_ropes_46 (by decide +kernel) ?_
        exact g_iret (Qr := (q_x_ropes T o wh n0 s0 im iz rw t0 u0 h0 y0 sv ys y1 y2 yb yt nn nm nl no nu n1 n2 n3 n4 n5 n6 n7 n8 n9 n10 nf1 nf2)) hC V ⟨(Nat.le_of_ble_eq_true rfl), (Nat.le_of_ble_eq_true rfl)⟩ ⟨(-5), ys, yb, yt, rfl, rfl⟩ dX7_ropes_48
    · skip
      have c_2 := b_nle (by omega) (by omega) c_2
      refine lv_bipush (v := (-4)) hx hb dX7_ropes_33 (by decide +kernel) ?_
      exact g_iret (Qr := (q_x_ropes T o wh n0 s0 im iz rw t0 u0 h0 y0 sv ys y1 y2 yb yt nn nm nl no nu n1 n2 n3 n4 n5 n6 n7 n8 n9 n10 nf1 nf2)) hC V ⟨(Nat.le_of_ble_eq_true rfl), (Nat.le_of_ble_eq_true rfl)⟩ ⟨(-4), ys, yb, yt, rfl, rfl⟩ dX7_ropes_35
  · skip
    refine lv_aload_n hx hb dX7_ropes_4 rfl (lv_at hl 0 rfl) ?_
    refine g_get hC V (ci := 7) uwX7 0 rfl rfl 0 (by decide) w_249 rfl rfl dX7_ropes_5 ?_
    refine lv_iload_n hx hb dX7_ropes_8 rfl (lv_at hl 1 rfl) ?_
    refine lv_bipush (v := (nI 10)) hx hb dX7_ropes_9 (by decide +kernel) ?_
    refine lv_isub hx hb dX7_ropes_11 ?_
    refine g_callVU (nA := 1) hC V hl.1 (s_isSmith l D T n0 (wh - (nI 10)) nn nm nl no nu n1 n2 n3 n4 n5 n6 n7 n8 n9 n10 (by first | assumption | omega)) w_425 w_426 w_427 w_3 w_428 (by decide +kernel) rfl ⟨(Nat.le_of_ble_eq_true rfl), (Nat.le_of_ble_eq_true rfl)⟩ 4 (ci := 5) rfl rfl [4] rfl rfl (Nat.le_of_ble_eq_true rfl) dX7_ropes_12 ⟨(Nat.le_of_ble_eq_true rfl), (Nat.le_of_ble_eq_true rfl)⟩ rfl (fun r w1 H locs hQ V => ?_)
    rcases hQ with ⟨j_9, rfl, rfl, f_10, f_11⟩ | ⟨rfl, rfl, f_12⟩
    · have V : gW D T A s [(o, .inr (7, [.ref n0, .ref s0, .ref im, .ref iz, .ref rw, .ref t0, .ref u0, .ref h0, .ref y0, sv])), (y0, .inr (0, [.int ys, .ref y1, .ref y2])), (y1, .inl (T 0, 7, .inl yb)), (y2, .inl (T 0, 7, .inl yt)), (n0, .inr (5, [.int (nI nn), .int nm, .int nl, .int no, .int nu, .ref n1, .ref n2, .ref n3, .ref n4, .ref n5, .ref n6, .ref n7, .ref n8, .ref n9, .ref n10])), (n1, .inl (T 0, 10, .inl nf1)), (n2, .inl (T 0, 10, .inl nf2))] H locs := V _ [4] rfl rfl rfl (by decide +kernel) rfl
      show W p l e _ s m args below meth c H locs _ _ _ (F0 m 15 ls [.int (nI 1)])
      refine lv_if_ne (tgt := 21) hx hb dX7_ropes_15 (by decide) (fun _ => ?_) (fun c => absurd (show (nI 1) = 0 from c) (by decide +kernel))
      refine lv_aload_n hx hb dX7_ropes_21 rfl (lv_at hl 0 rfl) ?_
      refine g_get hC V (ci := 7) uwX7 0 rfl rfl 0 (by decide) w_249 rfl rfl dX7_ropes_22 ?_
      refine g_get hC V (ci := 5) uwX5 4 rfl rfl 0 (by decide) w_38 rfl rfl dX7_ropes_25 ?_
      refine lv_bipush (v := (nI 7)) hx hb dX7_ropes_28 (by decide +kernel) ?_
      refine lv_icmp_le (tgt := 36) hx hb dX7_ropes_30 (by decide) (fun c_13 => ?_) (fun c_13 => ?_)
      · skip
        have c_13 := b_le (by omega) (by omega) c_13
        refine lv_aload_n hx hb dX7_ropes_36 rfl (lv_at hl 0 rfl) ?_
        refine g_get hC V (ci := 7) uwX7 0 rfl rfl 0 (by decide) w_249 rfl rfl dX7_ropes_37 ?_
        refine g_get hC V (ci := 5) uwX5 4 rfl rfl 0 (by decide) w_38 rfl rfl dX7_ropes_40 ?_
        refine lv_if_ne (tgt := 49) hx hb dX7_ropes_43 (by decide) (fun c_14 => ?_) (fun c_14 => ?_)
        · skip
          rw [show (0 : Int32) = nI 0 from rfl] at c_14
          have c_14 := b_ne (by omega) (by omega) c_14
          refine lv_aload_n hx hb dX7_ropes_49 rfl (lv_at hl 0 rfl) ?_
          refine g_get hC V (ci := 7) uwX7 0 rfl rfl 8 (by decide) w_257 rfl rfl dX7_ropes_50 ?_
          refine lv_aload_n hx hb dX7_ropes_53 rfl (lv_at hl 0 rfl) ?_
          refine g_get hC V (ci := 7) uwX7 0 rfl rfl 0 (by decide) w_249 rfl rfl dX7_ropes_54 ?_
          refine g_callVU (nA := 1) hC V hl.1 (y_seekBest l D T y0 n0 ys y1 y2 yb yt nn nm nl no nu n1 n2 n3 n4 n5 n6 n7 n8 n9 n10 nf1 nf2 (by first | assumption | omega)) w_799 w_800 w_801 w_7 w_802 (by decide +kernel) rfl ⟨(Nat.le_of_ble_eq_true rfl), (Nat.le_of_ble_eq_true rfl)⟩ 1 (ci := 0) rfl rfl [1, 2, 3, 4, 5, 6] rfl rfl (Nat.le_of_ble_eq_true rfl) dX7_ropes_57 ⟨(Nat.le_of_ble_eq_true rfl), (Nat.le_of_ble_eq_true rfl)⟩ rfl (fun r w1 H locs hQ V => ?_)
          obtain ⟨bs_15, g1_16, g2_17, rfl, rfl, f_18⟩ := hQ
          have V : gW D T A s [(o, .inr (7, [.ref n0, .ref s0, .ref im, .ref iz, .ref rw, .ref t0, .ref u0, .ref h0, .ref y0, sv])), (y0, .inr (0, [.int bs_15, .ref y1, .ref y2])), (y1, .inl (T 0, 7, .inl g1_16)), (y2, .inl (T 0, 7, .inl g2_17)), (n0, .inr (5, [.int (nI nn), .int nm, .int nl, .int no, .int nu, .ref n1, .ref n2, .ref n3, .ref n4, .ref n5, .ref n6, .ref n7, .ref n8, .ref n9, .ref n10])), (n1, .inl (T 0, 10, .inl nf1)), (n2, .inl (T 0, 10, .inl nf2))] H locs := V _ [1, 0, 0, 0, 0, 0] rfl rfl rfl (by decide +kernel) rfl
          show W p l e _ s m args below meth c H locs _ _ _ (F0 m 60 ls [])
          refine lv_iload_n hx hb dX7_ropes_60 rfl (lv_at hl 1 rfl) ?_
          refine lv_if_ne (tgt := 74) hx hb dX7_ropes_61 (by decide) (fun c_19 => ?_) (fun c_19 => ?_)
          · skip
            refine lv_aload_n hx hb dX7_ropes_74 rfl (lv_at hl 0 rfl) ?_
            refine g_get hC V (ci := 7) uwX7 0 rfl rfl 8 (by decide) w_257 rfl rfl dX7_ropes_75 ?_
            refine g_get hC V (ci := 0) uwX0 1 rfl rfl 1 (by decide) w_214 rfl rfl dX7_ropes_78 ?_
            refine lv_iload_n hx hb dX7_ropes_81 rfl (lv_at hl 1 rfl) ?_
            refine lv_bipush (v := (nI 10)) hx hb dX7_ropes_82 (by decide +kernel) ?_
            refine lv_isub hx hb dX7_ropes_84 ?_
            refine g_vi (y := nI j_9) f_10 ?_
            refine g_iald hC V 2 rfl (vp_in_nI (by omega) (by omega)) (v := (g1_16 j_9)) (congrArg _ (nI_clamp (by omega))) dX7_ropes_85 ?_
            exact g_iret (Qr := (q_x_ropes T o wh n0 s0 im iz rw t0 u0 h0 y0 sv ys y1 y2 yb yt nn nm nl no nu n1 n2 n3 n4 n5 n6 n7 n8 n9 n10 nf1 nf2)) hC V ⟨(Nat.le_of_ble_eq_true rfl), (Nat.le_of_ble_eq_true rfl)⟩ ⟨(g1_16 j_9), bs_15, g1_16, g2_17, rfl, rfl⟩ dX7_ropes_86
          · skip
            refine lv_aload_n hx hb dX7_ropes_64 rfl (lv_at hl 0 rfl) ?_
            refine g_get hC V (ci := 7) uwX7 0 rfl rfl 8 (by decide) w_257 rfl rfl dX7_ropes_65 ?_
            refine g_get hC V (ci := 0) uwX0 1 rfl rfl 0 (by decide) w_212 rfl rfl dX7_ropes_68 ?_
            refine lv_goto (tgt := 86) hx hb dX7_ropes_71 (by decide) ?_
            exact g_iret (Qr := (q_x_ropes T o wh n0 s0 im iz rw t0 u0 h0 y0 sv ys y1 y2 yb yt nn nm nl no nu n1 n2 n3 n4 n5 n6 n7 n8 n9 n10 nf1 nf2)) hC V ⟨(Nat.le_of_ble_eq_true rfl), (Nat.le_of_ble_eq_true rfl)⟩ ⟨bs_15, bs_15, g1_16, g2_17, rfl, rfl⟩ dX7_ropes_86
        · skip
          rw [show (0 : Int32) = nI 0 from rfl] at c_14
          have c_14 := b_eq (by omega) (by omega) c_14
          refine lv_bipush (v := (-5)) hx hb dX7_ropes_46 (by decide +kernel) ?_
          exact g_iret (Qr := (q_x_ropes T o wh n0 s0 im iz rw t0 u0 h0 y0 sv ys y1 y2 yb yt nn nm nl no nu n1 n2 n3 n4 n5 n6 n7 n8 n9 n10 nf1 nf2)) hC V ⟨(Nat.le_of_ble_eq_true rfl), (Nat.le_of_ble_eq_true rfl)⟩ ⟨(-5), ys, yb, yt, rfl, rfl⟩ dX7_ropes_48
      · skip
        have c_13 := b_nle (by omega) (by omega) c_13
        refine lv_bipush (v := (-4)) hx hb dX7_ropes_33 (by decide +kernel) ?_
        exact g_iret (Qr := (q_x_ropes T o wh n0 s0 im iz rw t0 u0 h0 y0 sv ys y1 y2 yb yt nn nm nl no nu n1 n2 n3 n4 n5 n6 n7 n8 n9 n10 nf1 nf2)) hC V ⟨(Nat.le_of_ble_eq_true rfl), (Nat.le_of_ble_eq_true rfl)⟩ ⟨(-4), ys, yb, yt, rfl, rfl⟩ dX7_ropes_35
    · have V : gW D T A s [(o, .inr (7, [.ref n0, .ref s0, .ref im, .ref iz, .ref rw, .ref t0, .ref u0, .ref h0, .ref y0, sv])), (y0, .inr (0, [.int ys, .ref y1, .ref y2])), (y1, .inl (T 0, 7, .inl yb)), (y2, .inl (T 0, 7, .inl yt)), (n0, .inr (5, [.int (nI nn), .int nm, .int nl, .int no, .int nu, .ref n1, .ref n2, .ref n3, .ref n4, .ref n5, .ref n6, .ref n7, .ref n8, .ref n9, .ref n10])), (n1, .inl (T 0, 10, .inl nf1)), (n2, .inl (T 0, 10, .inl nf2))] H locs := V _ [4] rfl rfl rfl (by decide +kernel) rfl
      show W p l e _ s m args below meth c H locs _ _ _ (F0 m 15 ls [.int (nI 0)])
      refine lv_if_ne (tgt := 21) hx hb dX7_ropes_15 (by decide) (fun c => absurd (show (nI 0) = 0 by decide +kernel) c) (fun _ => ?_)
      refine lv_bipush (v := (-2)) hx hb dX7_ropes_18 (by decide +kernel) ?_
      exact g_iret (Qr := (q_x_ropes T o wh n0 s0 im iz rw t0 u0 h0 y0 sv ys y1 y2 yb yt nn nm nl no nu n1 n2 n3 n4 n5 n6 n7 n8 n9 n10 nf1 nf2)) hC V ⟨(Nat.le_of_ble_eq_true rfl), (Nat.le_of_ble_eq_true rfl)⟩ ⟨(-2), ys, yb, yt, rfl, rfl⟩ dX7_ropes_20

theorem pred_bd40 {n : Nat} {z : Int32} (hn : n ≤ 40) (h1 : ¬ z < nI 0) (h2 : ¬ nI n - nI 1 < z) : bd z n := by
  by_cases h0 : n = 0
  · subst h0
    exfalso
    have e : nI 0 - nI 1 = -1 := by decide +kernel
    rw [e] at h2
    rw [Int32.lt_iff_toInt_lt] at h1 h2
    have a1 : (nI 0).toInt = 0 := by decide +kernel
    have a2 : (-1 : Int32).toInt = -1 := by decide +kernel
    omega
  · rw [nI_sub (by omega)] at h2
    obtain ⟨j, hj1, hj2, e⟩ := g_rng (by decide) (by omega) h1 h2
    exact ⟨j, by omega, e⟩

/-- what numbers(row, sort, n) answers -/
def numWhy (row sort n : Int32) : Int32 := if (row < 0 ∨ nI 4 ≤ row) ∨ (sort < nI 0 ∨ nI 3 < sort) then -2 else if n < nI 0 ∨ nI 40 < n then -3 else nI 0
theorem nw_1 {row sort n : Int32} (h : row < 0 ∨ nI 4 ≤ row) : -2 = numWhy row sort n := by simp [numWhy, h]
theorem nw_2 {row sort n : Int32} (h : sort < nI 0 ∨ nI 3 < sort) : -2 = numWhy row sort n := by simp [numWhy, h]
theorem nw_3 {row sort n : Int32} (h0 : ¬ row < 0) (h1 : ¬ nI 4 ≤ row) (h2 : ¬ sort < nI 0) (h3 : ¬ nI 3 < sort) (h : n < nI 0 ∨ nI 40 < n) : -3 = numWhy row sort n := by simp only [numWhy]; simp [h0, h1, h2, h3, h]
theorem nw_4 {row sort n : Int32} (h0 : ¬ row < 0) (h1 : ¬ nI 4 ≤ row) (h2 : ¬ sort < nI 0) (h3 : ¬ nI 3 < sort) (h4 : ¬ n < nI 0) (h5 : ¬ nI 40 < n) : nI 0 = numWhy row sort n := by simp only [numWhy]; simp [h0, h1, h2, h3, h4, h5]

/-- what image(i) answers -/
def imgWhy (i : Int32) : Int32 := if i < 0 ∨ nI 2 ≤ i then -2 else nI 0
theorem iw_1 {i : Int32} (h : i < 0 ∨ nI 2 ≤ i) : -2 = imgWhy i := by simp [imgWhy, h]
theorem iw_2 {i : Int32} (h0 : ¬ i < 0) (h1 : ¬ nI 2 ≤ i) : nI 0 = imgWhy i := by simp only [imgWhy]; simp [h0, h1]
/-- what restore(i) answers -/
def resWhy (i a b : Int32) : Int32 := if i < 0 ∨ nI 2 ≤ i then -2 else if i = nI 0 ∧ a = 0 ∨ i = nI 1 ∧ b = 0 then -5 else nI 0

def q_x_count (T : Nat → ClassId) (o : Nat) (wh : Int32) (n0 : Nat) (s0 : Nat) (im : Nat) (iz : Nat) (rw : Nat) (t0 : Nat) (u0 : Nat) (h0 : Nat) (y0 : Nat) (sv : Value) (tf : Nat) (tu : Int32) (tl : Int32) (t1 : Nat) (te : Int32) (tk : Int32) (tr : Int32) (tb : Int32) (nn : Nat) (nm : Int32) (nl : Int32) (no : Int32) (nu : Int32) (n1 : Nat) (n2 : Nat) (n3 : Nat) (n4 : Nat) (n5 : Nat) (n6 : Nat) (n7 : Nat) (n8 : Nat) (n9 : Nat) (n10 : Nat) (nf3 : Nat → Int32) (nf4 : Nat → Int32) (nf5 : Nat → Int32) (nf6 : Nat → Int32) (nf7 : Nat → Int32) : Option Value → va_W → Prop := fun rr ww => (∃ (z : Int32), rr = some (.int z) ∧ ww = [(o, .inr (7, [.ref n0, .ref s0, .ref im, .ref iz, .ref rw, .ref t0, .ref u0, .ref h0, .ref y0, sv])), (t0, .inr (2, [.int (nI tf), .int tu, .int tl, .ref t1, .int te, .int tk, .int tr, .int tb])), (n0, .inr (5, [.int (nI nn), .int nm, .int nl, .int no, .int nu, .ref n1, .ref n2, .ref n3, .ref n4, .ref n5, .ref n6, .ref n7, .ref n8, .ref n9, .ref n10])), (n3, .inl (T 0, 10, .inl nf3)), (n4, .inl (T 0, 10, .inl nf4)), (n5, .inl (T 0, 10, .inl nf5)), (n6, .inl (T 0, 10, .inl nf6)), (n7, .inl (T 0, 10, .inl nf7))])
set_option maxHeartbeats 4000000 in
set_option maxRecDepth 100000 in
theorem x_count (l : Launch) (D : va_G) (T : Nat → ClassId) (o : Nat) (wh : Int32) (n0 : Nat) (s0 : Nat) (im : Nat) (iz : Nat) (rw : Nat) (t0 : Nat) (u0 : Nat) (h0 : Nat) (y0 : Nat) (sv : Value) (tf : Nat) (tu : Int32) (tl : Int32) (t1 : Nat) (te : Int32) (tk : Int32) (tr : Int32) (tb : Int32) (nn : Nat) (nm : Int32) (nl : Int32) (no : Int32) (nu : Int32) (n1 : Nat) (n2 : Nat) (n3 : Nat) (n4 : Nat) (n5 : Nat) (n6 : Nat) (n7 : Nat) (n8 : Nat) (n9 : Nat) (n10 : Nat) (nf3 : Nat → Int32) (nf4 : Nat → Int32) (nf5 : Nat → Int32) (nf6 : Nat → Int32) (nf7 : Nat → Int32) (h_n : nn ≤ 10) : Ct l yX7_count cX7_count 2 (some .int) 2 0 0 D T [.ref o, .int wh] [(o, .inr (7, [.ref n0, .ref s0, .ref im, .ref iz, .ref rw, .ref t0, .ref u0, .ref h0, .ref y0, sv])), (t0, .inr (2, [.int (nI tf), .int tu, .int tl, .ref t1, .int te, .int tk, .int tr, .int tb])), (n0, .inr (5, [.int (nI nn), .int nm, .int nl, .int no, .int nu, .ref n1, .ref n2, .ref n3, .ref n4, .ref n5, .ref n6, .ref n7, .ref n8, .ref n9, .ref n10])), (n3, .inl (T 0, 10, .inl nf3)), (n4, .inl (T 0, 10, .inl nf4)), (n5, .inl (T 0, 10, .inl nf5)), (n6, .inl (T 0, 10, .inl nf6)), (n7, .inl (T 0, 10, .inl nf7))] (q_x_count T o wh n0 s0 im iz rw t0 u0 h0 y0 sv tf tu tl t1 te tk tr tb nn nm nl no nu n1 n2 n3 n4 n5 n6 n7 n8 n9 n10 nf3 nf4 nf5 nf6 nf7) := by
  refine Ct.of (cc := cX7_count) (maxL := 2) (ret := (some .int)) (by decide) (Nat.le_of_ble_eq_true rfl) ?_
  intro p e s m args below meth c A ls hC hnm V hl
  obtain ⟨hx, hb, hr, hml, hown, hts, hlocks⟩ := id hC
  generalize hH : s.heap = H at V ⊢
  clear hH
  have hl : lv_has ls 2 [(0, .ref o), (1, .int wh)] := hl
  generalize hlo : ([] : List Loc) = locs at V ⊢
  clear hlo
  refine lv_iload_n hx hb dX7_count_0 rfl (lv_at hl 1 rfl) ?_
  by_cases c_10 : wh = (nI 0)
  · skip
    refine lv_tableIn (tgt := 52) (off := 51) hx hb dX7_count_1 (by first | decide +kernel | (rw [c_10]; decide +kernel)) (by first | decide +kernel | (rw [c_10]; decide +kernel)) (by first | decide +kernel | (rw [c_10]; decide +kernel)) (by decide) ?_
    refine lv_aload_n hx hb dX7_count_52 rfl (lv_at hl 0 rfl) ?_
    refine g_get hC V (ci := 7) uwX7 0 rfl rfl 0 (by decide) w_249 rfl rfl dX7_count_53 ?_
    refine g_get hC V (ci := 5) uwX5 2 rfl rfl 0 (by decide) w_38 rfl rfl dX7_count_56 ?_
    exact g_iret (Qr := (q_x_count T o wh n0 s0 im iz rw t0 u0 h0 y0 sv tf tu tl t1 te tk tr tb nn nm nl no nu n1 n2 n3 n4 n5 n6 n7 n8 n9 n10 nf3 nf4 nf5 nf6 nf7)) hC V ⟨(Nat.le_of_ble_eq_true rfl), (Nat.le_of_ble_eq_true rfl)⟩ ⟨(nI nn), rfl, rfl⟩ dX7_count_59
  by_cases c_11 : wh = (nI 1)
  · skip
    refine lv_tableIn (tgt := 60) (off := 59) hx hb dX7_count_1 (by first | decide +kernel | (rw [c_11]; decide +kernel)) (by first | decide +kernel | (rw [c_11]; decide +kernel)) (by first | decide +kernel | (rw [c_11]; decide +kernel)) (by decide) ?_
    refine lv_aload_n hx hb dX7_count_60 rfl (lv_at hl 0 rfl) ?_
    refine g_get hC V (ci := 7) uwX7 0 rfl rfl 0 (by decide) w_249 rfl rfl dX7_count_61 ?_
    refine g_get hC V (ci := 5) uwX5 2 rfl rfl 1 (by decide) w_41 rfl rfl dX7_count_64 ?_
    exact g_iret (Qr := (q_x_count T o wh n0 s0 im iz rw t0 u0 h0 y0 sv tf tu tl t1 te tk tr tb nn nm nl no nu n1 n2 n3 n4 n5 n6 n7 n8 n9 n10 nf3 nf4 nf5 nf6 nf7)) hC V ⟨(Nat.le_of_ble_eq_true rfl), (Nat.le_of_ble_eq_true rfl)⟩ ⟨nm, rfl, rfl⟩ dX7_count_67
  by_cases c_12 : wh = (nI 2)
  · skip
    refine lv_tableIn (tgt := 68) (off := 67) hx hb dX7_count_1 (by first | decide +kernel | (rw [c_12]; decide +kernel)) (by first | decide +kernel | (rw [c_12]; decide +kernel)) (by first | decide +kernel | (rw [c_12]; decide +kernel)) (by decide) ?_
    refine lv_aload_n hx hb dX7_count_68 rfl (lv_at hl 0 rfl) ?_
    refine g_get hC V (ci := 7) uwX7 0 rfl rfl 0 (by decide) w_249 rfl rfl dX7_count_69 ?_
    refine g_callVU (nA := 0) hC V hl.1 (s_piecesDone l D T n0 nn nm nl no nu n1 n2 n3 n4 n5 n6 n7 n8 n9 n10 nf6 nf7 (by first | assumption | omega)) w_516 w_517 w_518 w_3 w_519 (by decide +kernel) rfl ⟨(Nat.le_of_ble_eq_true rfl), (Nat.le_of_ble_eq_true rfl)⟩ 2 (ci := 5) rfl rfl [2, 6, 7] rfl rfl (Nat.le_of_ble_eq_true rfl) dX7_count_72 ⟨(Nat.le_of_ble_eq_true rfl), (Nat.le_of_ble_eq_true rfl)⟩ rfl (fun r w1 H locs hQ V => ?_)
    obtain ⟨z_2, rfl, rfl⟩ := hQ
    have V : gW D T A s [(o, .inr (7, [.ref n0, .ref s0, .ref im, .ref iz, .ref rw, .ref t0, .ref u0, .ref h0, .ref y0, sv])), (t0, .inr (2, [.int (nI tf), .int tu, .int tl, .ref t1, .int te, .int tk, .int tr, .int tb])), (n0, .inr (5, [.int (nI nn), .int nm, .int nl, .int no, .int nu, .ref n1, .ref n2, .ref n3, .ref n4, .ref n5, .ref n6, .ref n7, .ref n8, .ref n9, .ref n10])), (n3, .inl (T 0, 10, .inl nf3)), (n4, .inl (T 0, 10, .inl nf4)), (n5, .inl (T 0, 10, .inl nf5)), (n6, .inl (T 0, 10, .inl nf6)), (n7, .inl (T 0, 10, .inl nf7))] H locs := V _ [2, 3, 0] rfl rfl rfl (by decide +kernel) rfl
    show W p l e _ s m args below meth c H locs _ _ _ (F0 m 75 ls [.int z_2])
    exact g_iret (Qr := (q_x_count T o wh n0 s0 im iz rw t0 u0 h0 y0 sv tf tu tl t1 te tk tr tb nn nm nl no nu n1 n2 n3 n4 n5 n6 n7 n8 n9 n10 nf3 nf4 nf5 nf6 nf7)) hC V ⟨(Nat.le_of_ble_eq_true rfl), (Nat.le_of_ble_eq_true rfl)⟩ ⟨z_2, rfl, rfl⟩ dX7_count_75
  by_cases c_13 : wh = (nI 3)
  · skip
    refine lv_tableIn (tgt := 76) (off := 75) hx hb dX7_count_1 (by first | decide +kernel | (rw [c_13]; decide +kernel)) (by first | decide +kernel | (rw [c_13]; decide +kernel)) (by first | decide +kernel | (rw [c_13]; decide +kernel)) (by decide) ?_
    refine lv_aload_n hx hb dX7_count_76 rfl (lv_at hl 0 rfl) ?_
    refine g_get hC V (ci := 7) uwX7 0 rfl rfl 0 (by decide) w_249 rfl rfl dX7_count_77 ?_
    refine g_get hC V (ci := 5) uwX5 2 rfl rfl 4 (by decide) w_50 rfl rfl dX7_count_80 ?_
    exact g_iret (Qr := (q_x_count T o wh n0 s0 im iz rw t0 u0 h0 y0 sv tf tu tl t1 te tk tr tb nn nm nl no nu n1 n2 n3 n4 n5 n6 n7 n8 n9 n10 nf3 nf4 nf5 nf6 nf7)) hC V ⟨(Nat.le_of_ble_eq_true rfl), (Nat.le_of_ble_eq_true rfl)⟩ ⟨nu, rfl, rfl⟩ dX7_count_83
  by_cases c_14 : wh = (nI 4)
  · skip
    refine lv_tableIn (tgt := 84) (off := 83) hx hb dX7_count_1 (by first | decide +kernel | (rw [c_14]; decide +kernel)) (by first | decide +kernel | (rw [c_14]; decide +kernel)) (by first | decide +kernel | (rw [c_14]; decide +kernel)) (by decide) ?_
    refine lv_aload_n hx hb dX7_count_84 rfl (lv_at hl 0 rfl) ?_
    refine g_get hC V (ci := 7) uwX7 0 rfl rfl 0 (by decide) w_249 rfl rfl dX7_count_85 ?_
    refine g_callVU (nA := 0) hC V hl.1 (s_workable l D T n0 nn nm nl no nu n1 n2 n3 n4 n5 n6 n7 n8 n9 n10 nf3 nf4 nf5 (by first | assumption | omega)) w_898 w_899 w_900 w_3 w_901 (by decide +kernel) rfl ⟨(Nat.le_of_ble_eq_true rfl), (Nat.le_of_ble_eq_true rfl)⟩ 2 (ci := 5) rfl rfl [2, 3, 4, 5] rfl rfl (Nat.le_of_ble_eq_true rfl) dX7_count_88 ⟨(Nat.le_of_ble_eq_true rfl), (Nat.le_of_ble_eq_true rfl)⟩ rfl (fun r w1 H locs hQ V => ?_)
    obtain ⟨z_3, rfl, rfl⟩ := hQ
    have V : gW D T A s [(o, .inr (7, [.ref n0, .ref s0, .ref im, .ref iz, .ref rw, .ref t0, .ref u0, .ref h0, .ref y0, sv])), (t0, .inr (2, [.int (nI tf), .int tu, .int tl, .ref t1, .int te, .int tk, .int tr, .int tb])), (n0, .inr (5, [.int (nI nn), .int nm, .int nl, .int no, .int nu, .ref n1, .ref n2, .ref n3, .ref n4, .ref n5, .ref n6, .ref n7, .ref n8, .ref n9, .ref n10])), (n3, .inl (T 0, 10, .inl nf3)), (n4, .inl (T 0, 10, .inl nf4)), (n5, .inl (T 0, 10, .inl nf5)), (n6, .inl (T 0, 10, .inl nf6)), (n7, .inl (T 0, 10, .inl nf7))] H locs := V _ [2, 0, 0, 0] rfl rfl rfl (by decide +kernel) rfl
    show W p l e _ s m args below meth c H locs _ _ _ (F0 m 91 ls [.int z_3])
    exact g_iret (Qr := (q_x_count T o wh n0 s0 im iz rw t0 u0 h0 y0 sv tf tu tl t1 te tk tr tb nn nm nl no nu n1 n2 n3 n4 n5 n6 n7 n8 n9 n10 nf3 nf4 nf5 nf6 nf7)) hC V ⟨(Nat.le_of_ble_eq_true rfl), (Nat.le_of_ble_eq_true rfl)⟩ ⟨z_3, rfl, rfl⟩ dX7_count_91
  by_cases c_15 : wh = (nI 5)
  · skip
    refine lv_tableIn (tgt := 92) (off := 91) hx hb dX7_count_1 (by first | decide +kernel | (rw [c_15]; decide +kernel)) (by first | decide +kernel | (rw [c_15]; decide +kernel)) (by first | decide +kernel | (rw [c_15]; decide +kernel)) (by decide) ?_
    refine lv_aload_n hx hb dX7_count_92 rfl (lv_at hl 0 rfl) ?_
    refine g_get hC V (ci := 7) uwX7 0 rfl rfl 0 (by decide) w_249 rfl rfl dX7_count_93 ?_
    refine g_callVU (nA := 0) hC V hl.1 (s_heatTogether l D T n0 nn nm nl no nu n1 n2 n3 n4 n5 n6 n7 n8 n9 n10 nf3 (by first | assumption | omega)) w_902 w_903 w_904 w_3 w_905 (by decide +kernel) rfl ⟨(Nat.le_of_ble_eq_true rfl), (Nat.le_of_ble_eq_true rfl)⟩ 2 (ci := 5) rfl rfl [2, 3] rfl rfl (Nat.le_of_ble_eq_true rfl) dX7_count_96 ⟨(Nat.le_of_ble_eq_true rfl), (Nat.le_of_ble_eq_true rfl)⟩ rfl (fun r w1 H locs hQ V => ?_)
    obtain ⟨z_4, rfl, rfl⟩ := hQ
    have V : gW D T A s [(o, .inr (7, [.ref n0, .ref s0, .ref im, .ref iz, .ref rw, .ref t0, .ref u0, .ref h0, .ref y0, sv])), (t0, .inr (2, [.int (nI tf), .int tu, .int tl, .ref t1, .int te, .int tk, .int tr, .int tb])), (n0, .inr (5, [.int (nI nn), .int nm, .int nl, .int no, .int nu, .ref n1, .ref n2, .ref n3, .ref n4, .ref n5, .ref n6, .ref n7, .ref n8, .ref n9, .ref n10])), (n3, .inl (T 0, 10, .inl nf3)), (n4, .inl (T 0, 10, .inl nf4)), (n5, .inl (T 0, 10, .inl nf5)), (n6, .inl (T 0, 10, .inl nf6)), (n7, .inl (T 0, 10, .inl nf7))] H locs := V _ [2, 0] rfl rfl rfl (by decide +kernel) rfl
    show W p l e _ s m args below meth c H locs _ _ _ (F0 m 99 ls [.int z_4])
    exact g_iret (Qr := (q_x_count T o wh n0 s0 im iz rw t0 u0 h0 y0 sv tf tu tl t1 te tk tr tb nn nm nl no nu n1 n2 n3 n4 n5 n6 n7 n8 n9 n10 nf3 nf4 nf5 nf6 nf7)) hC V ⟨(Nat.le_of_ble_eq_true rfl), (Nat.le_of_ble_eq_true rfl)⟩ ⟨z_4, rfl, rfl⟩ dX7_count_99
  by_cases c_16 : wh = (nI 6)
  · skip
    refine lv_tableIn (tgt := 100) (off := 99) hx hb dX7_count_1 (by first | decide +kernel | (rw [c_16]; decide +kernel)) (by first | decide +kernel | (rw [c_16]; decide +kernel)) (by first | decide +kernel | (rw [c_16]; decide +kernel)) (by decide) ?_
    refine lv_aload_n hx hb dX7_count_100 rfl (lv_at hl 0 rfl) ?_
    refine g_get hC V (ci := 7) uwX7 0 rfl rfl 5 (by decide) w_254 rfl rfl dX7_count_101 ?_
    refine g_get hC V (ci := 2) uwX2 1 rfl rfl 0 (by decide) w_128 rfl rfl dX7_count_104 ?_
    exact g_iret (Qr := (q_x_count T o wh n0 s0 im iz rw t0 u0 h0 y0 sv tf tu tl t1 te tk tr tb nn nm nl no nu n1 n2 n3 n4 n5 n6 n7 n8 n9 n10 nf3 nf4 nf5 nf6 nf7)) hC V ⟨(Nat.le_of_ble_eq_true rfl), (Nat.le_of_ble_eq_true rfl)⟩ ⟨(nI tf), rfl, rfl⟩ dX7_count_107
  by_cases c_17 : wh = (nI 7)
  · skip
    refine lv_tableIn (tgt := 108) (off := 107) hx hb dX7_count_1 (by first | decide +kernel | (rw [c_17]; decide +kernel)) (by first | decide +kernel | (rw [c_17]; decide +kernel)) (by first | decide +kernel | (rw [c_17]; decide +kernel)) (by decide) ?_
    refine lv_aload_n hx hb dX7_count_108 rfl (lv_at hl 0 rfl) ?_
    refine g_get hC V (ci := 7) uwX7 0 rfl rfl 0 (by decide) w_249 rfl rfl dX7_count_109 ?_
    refine g_get hC V (ci := 5) uwX5 2 rfl rfl 2 (by decide) w_43 rfl rfl dX7_count_112 ?_
    exact g_iret (Qr := (q_x_count T o wh n0 s0 im iz rw t0 u0 h0 y0 sv tf tu tl t1 te tk tr tb nn nm nl no nu n1 n2 n3 n4 n5 n6 n7 n8 n9 n10 nf3 nf4 nf5 nf6 nf7)) hC V ⟨(Nat.le_of_ble_eq_true rfl), (Nat.le_of_ble_eq_true rfl)⟩ ⟨nl, rfl, rfl⟩ dX7_count_115
  by_cases c_18 : wh = (nI 8)
  · skip
    refine lv_tableIn (tgt := 116) (off := 115) hx hb dX7_count_1 (by first | decide +kernel | (rw [c_18]; decide +kernel)) (by first | decide +kernel | (rw [c_18]; decide +kernel)) (by first | decide +kernel | (rw [c_18]; decide +kernel)) (by decide) ?_
    refine lv_aload_n hx hb dX7_count_116 rfl (lv_at hl 0 rfl) ?_
    refine g_get hC V (ci := 7) uwX7 0 rfl rfl 0 (by decide) w_249 rfl rfl dX7_count_117 ?_
    refine g_get hC V (ci := 5) uwX5 2 rfl rfl 3 (by decide) w_48 rfl rfl dX7_count_120 ?_
    exact g_iret (Qr := (q_x_count T o wh n0 s0 im iz rw t0 u0 h0 y0 sv tf tu tl t1 te tk tr tb nn nm nl no nu n1 n2 n3 n4 n5 n6 n7 n8 n9 n10 nf3 nf4 nf5 nf6 nf7)) hC V ⟨(Nat.le_of_ble_eq_true rfl), (Nat.le_of_ble_eq_true rfl)⟩ ⟨no, rfl, rfl⟩ dX7_count_123
  refine lv_tableOut (tgt := 124) hx hb dX7_count_1 (g_out 0 8 (fun k h1 h2 => ?_)) (by decide) ?_
  · intro h
    have h3 : k = 0 ∨ k = 1 ∨ k = 2 ∨ k = 3 ∨ k = 4 ∨ k = 5 ∨ k = 6 ∨ k = 7 ∨ k = 8 := by omega
    rcases h3 with rfl | rfl | rfl | rfl | rfl | rfl | rfl | rfl | rfl
    · exact c_10 (g_out2 h (by decide +kernel))
    · exact c_11 (g_out2 h (by decide +kernel))
    · exact c_12 (g_out2 h (by decide +kernel))
    · exact c_13 (g_out2 h (by decide +kernel))
    · exact c_14 (g_out2 h (by decide +kernel))
    · exact c_15 (g_out2 h (by decide +kernel))
    · exact c_16 (g_out2 h (by decide +kernel))
    · exact c_17 (g_out2 h (by decide +kernel))
    · exact c_18 (g_out2 h (by decide +kernel))
  refine lv_iconst (v := (-1)) hx hb dX7_count_124 (by decide +kernel) ?_
  exact g_iret (Qr := (q_x_count T o wh n0 s0 im iz rw t0 u0 h0 y0 sv tf tu tl t1 te tk tr tb nn nm nl no nu n1 n2 n3 n4 n5 n6 n7 n8 n9 n10 nf3 nf4 nf5 nf6 nf7)) hC V ⟨(Nat.le_of_ble_eq_true rfl), (Nat.le_of_ble_eq_true rfl)⟩ ⟨(-1), rfl, rfl⟩ dX7_count_125

/-- what feed answers, with t bytes on the tape -/
def feedN (t : Nat) : Nat := if 880 < t then t else t + 20
def feedA (t : Nat) : Int32 := if 880 < t then -5 else nI (t + 20)
theorem fd_1 {t : Nat} (h : 880 < t) : -5 = feedA t := by simp [feedA, h]
theorem fd_2 {t k : Nat} (h : ¬ 880 < t) (e : k = t + 20) : nI k = feedA t := by simp [feedA, h, e]
theorem fd_3 {t : Nat} (h : 880 < t) : t = feedN t := by simp [feedN, h]
theorem fd_4 {t k : Nat} (h : ¬ 880 < t) (e : k = t + 20) : k = feedN t := by simp [feedN, h, e]

/-- how many bytes are left on the tape behind street(n) -/
def strN (n : Int32) (t : Nat) : Nat := if n < nI 0 ∨ nI t < n then t else 0
def q_x_soonestB (T : Nat → ClassId) (o : Nat) (n0 : Nat) (s0 : Nat) (im : Nat) (iz : Nat) (rw : Nat) (t0 : Nat) (u0 : Nat) (h0 : Nat) (y0 : Nat) (e0 : Nat) (nn : Nat) (nm : Int32) (nl : Int32) (no : Int32) (nu : Int32) (n1 : Nat) (n2 : Nat) (n3 : Nat) (n4 : Nat) (n5 : Nat) (n6 : Nat) (n7 : Nat) (n8 : Nat) (n9 : Nat) (n10 : Nat) (nf1 : Nat → Int32) (nf2 : Nat → Int32) (nf3 : Nat → Int32) (nf4 : Nat → Int32) (nf5 : Nat → Int32) (nf6 : Nat → Int32) (nf7 : Nat → Int32) (nf9 : Nat → Int32) (e1 : Nat) (e2 : Nat) (em : Int32) (e3 : Nat) (e4 : Nat) (e5 : Nat) (e6 : Nat) (ea : Nat → Int64) (eb : Nat → Int32) (ec : Nat → Int32) (ed : Nat → Int32) (ee : Nat → Int32) (ef : Nat → Int32) : Option Value → va_W → Prop := fun rr ww => (∃ (z : Int32) (em2 : Int32) (g1 : Nat → Int64) (g2 : Nat → Int32) (gc : Nat → Int32) (gd : Nat → Int32) (ge : Nat → Int32) (gf : Nat → Int32), rr = some (.int z) ∧ ww = [(o, .inr (7, [.ref n0, .ref s0, .ref im, .ref iz, .ref rw, .ref t0, .ref u0, .ref h0, .ref y0, .ref e0])), (n0, .inr (5, [.int (nI nn), .int nm, .int nl, .int no, .int nu, .ref n1, .ref n2, .ref n3, .ref n4, .ref n5, .ref n6, .ref n7, .ref n8, .ref n9, .ref n10])), (n1, .inl (T 0, 10, .inl nf1)), (n2, .inl (T 0, 10, .inl nf2)), (n3, .inl (T 0, 10, .inl nf3)), (n4, .inl (T 0, 10, .inl nf4)), (n5, .inl (T 0, 10, .inl nf5)), (n6, .inl (T 0, 10, .inl nf6)), (n7, .inl (T 0, 10, .inl nf7)), (n9, .inl (T 0, 10, .inl nf9)), (e0, .inr (4, [.ref e1, .ref e2, .int em2, .ref e3, .ref e4, .ref e5, .ref e6])), (e1, .inl (T 1, 3001, .inr (.inl g1))), (e2, .inl (T 0, 8192, .inl g2)), (e3, .inl (T 0, 3, .inl gc)), (e4, .inl (T 0, 3, .inl gd)), (e5, .inl (T 0, 3, .inl ge)), (e6, .inl (T 0, 24, .inl gf))])
set_option maxHeartbeats 4000000 in
set_option maxRecDepth 100000 in
theorem x_soonestB (l : Launch) (D : va_G) (T : Nat → ClassId) (o : Nat) (n0 : Nat) (s0 : Nat) (im : Nat) (iz : Nat) (rw : Nat) (t0 : Nat) (u0 : Nat) (h0 : Nat) (y0 : Nat) (e0 : Nat) (nn : Nat) (nm : Int32) (nl : Int32) (no : Int32) (nu : Int32) (n1 : Nat) (n2 : Nat) (n3 : Nat) (n4 : Nat) (n5 : Nat) (n6 : Nat) (n7 : Nat) (n8 : Nat) (n9 : Nat) (n10 : Nat) (nf1 : Nat → Int32) (nf2 : Nat → Int32) (nf3 : Nat → Int32) (nf4 : Nat → Int32) (nf5 : Nat → Int32) (nf6 : Nat → Int32) (nf7 : Nat → Int32) (nf9 : Nat → Int32) (e1 : Nat) (e2 : Nat) (em : Int32) (e3 : Nat) (e4 : Nat) (e5 : Nat) (e6 : Nat) (ea : Nat → Int64) (eb : Nat → Int32) (ec : Nat → Int32) (ed : Nat → Int32) (ee : Nat → Int32) (ef : Nat → Int32) (h_n : nn ≤ 10) : Ct l yX7_soonest cX7_soonest 1 (some .int) 5 0 0 D T [.ref o] [(o, .inr (7, [.ref n0, .ref s0, .ref im, .ref iz, .ref rw, .ref t0, .ref u0, .ref h0, .ref y0, .ref e0])), (n0, .inr (5, [.int (nI nn), .int nm, .int nl, .int no, .int nu, .ref n1, .ref n2, .ref n3, .ref n4, .ref n5, .ref n6, .ref n7, .ref n8, .ref n9, .ref n10])), (n1, .inl (T 0, 10, .inl nf1)), (n2, .inl (T 0, 10, .inl nf2)), (n3, .inl (T 0, 10, .inl nf3)), (n4, .inl (T 0, 10, .inl nf4)), (n5, .inl (T 0, 10, .inl nf5)), (n6, .inl (T 0, 10, .inl nf6)), (n7, .inl (T 0, 10, .inl nf7)), (n9, .inl (T 0, 10, .inl nf9)), (e0, .inr (4, [.ref e1, .ref e2, .int em, .ref e3, .ref e4, .ref e5, .ref e6])), (e1, .inl (T 1, 3001, .inr (.inl ea))), (e2, .inl (T 0, 8192, .inl eb)), (e3, .inl (T 0, 3, .inl ec)), (e4, .inl (T 0, 3, .inl ed)), (e5, .inl (T 0, 3, .inl ee)), (e6, .inl (T 0, 24, .inl ef))] (q_x_soonestB T o n0 s0 im iz rw t0 u0 h0 y0 e0 nn nm nl no nu n1 n2 n3 n4 n5 n6 n7 n8 n9 n10 nf1 nf2 nf3 nf4 nf5 nf6 nf7 nf9 e1 e2 em e3 e4 e5 e6 ea eb ec ed ee ef) := by
  refine Ct.of (cc := cX7_soonest) (maxL := 1) (ret := (some .int)) (by decide) (Nat.le_of_ble_eq_true rfl) ?_
  intro p e s m args below meth c A ls hC hnm V hl
  obtain ⟨hx, hb, hr, hml, hown, hts, hlocks⟩ := id hC
  generalize hH : s.heap = H at V ⊢
  clear hH
  have hl : lv_has ls 1 [(0, .ref o)] := hl
  generalize hlo : ([] : List Loc) = locs at V ⊢
  clear hlo
  refine lv_aload_n hx hb dX7_soonest_0 rfl (lv_at hl 0 rfl) ?_
  refine g_get hC V (ci := 7) uwX7 0 rfl rfl 0 (by decide) w_249 rfl rfl dX7_soonest_1 ?_
  refine g_get hC V (ci := 5) uwX5 1 rfl rfl 0 (by decide) w_38 rfl rfl dX7_soonest_4 ?_
  refine lv_iconst (v := (nI 3)) hx hb dX7_soonest_7 (by decide +kernel) ?_
  refine lv_icmp_le (tgt := 14) hx hb dX7_soonest_8 (by decide) (fun c_1 => ?_) (fun c_1 => ?_)
  · skip
    have c_1 := b_le (by omega) (by omega) c_1
    refine lv_aload_n hx hb dX7_soonest_14 rfl (lv_at hl 0 rfl) ?_
    refine g_get hC V (ci := 7) uwX7 0 rfl rfl 0 (by decide) w_249 rfl rfl dX7_soonest_15 ?_
    refine g_callVU (nA := 0) hC V hl.1 (s_piecesDone l D T n0 nn nm nl no nu n1 n2 n3 n4 n5 n6 n7 n8 n9 n10 nf6 nf7 (by first | assumption | omega)) w_516 w_517 w_518 w_3 w_519 (by decide +kernel) rfl ⟨(Nat.le_of_ble_eq_true rfl), (Nat.le_of_ble_eq_true rfl)⟩ 1 (ci := 5) rfl rfl [1, 7, 8] rfl rfl (Nat.le_of_ble_eq_true rfl) dX7_soonest_18 ⟨(Nat.le_of_ble_eq_true rfl), (Nat.le_of_ble_eq_true rfl)⟩ rfl (fun r w1 H locs hQ V => ?_)
    obtain ⟨z_2, rfl, rfl⟩ := hQ
    have V : gW D T A s [(o, .inr (7, [.ref n0, .ref s0, .ref im, .ref iz, .ref rw, .ref t0, .ref u0, .ref h0, .ref y0, .ref e0])), (n0, .inr (5, [.int (nI nn), .int nm, .int nl, .int no, .int nu, .ref n1, .ref n2, .ref n3, .ref n4, .ref n5, .ref n6, .ref n7, .ref n8, .ref n9, .ref n10])), (n1, .inl (T 0, 10, .inl nf1)), (n2, .inl (T 0, 10, .inl nf2)), (n3, .inl (T 0, 10, .inl nf3)), (n4, .inl (T 0, 10, .inl nf4)), (n5, .inl (T 0, 10, .inl nf5)), (n6, .inl (T 0, 10, .inl nf6)), (n7, .inl (T 0, 10, .inl nf7)), (n9, .inl (T 0, 10, .inl nf9)), (e0, .inr (4, [.ref e1, .ref e2, .int em, .ref e3, .ref e4, .ref e5, .ref e6])), (e1, .inl (T 1, 3001, .inr (.inl ea))), (e2, .inl (T 0, 8192, .inl eb)), (e3, .inl (T 0, 3, .inl ec)), (e4, .inl (T 0, 3, .inl ed)), (e5, .inl (T 0, 3, .inl ee)), (e6, .inl (T 0, 24, .inl ef))] H locs := V _ [1, 5, 0] rfl rfl rfl (by decide +kernel) rfl
    show W p l e _ s m args below meth c H locs _ _ _ (F0 m 21 ls [.int z_2])
    refine lv_aload_n hx hb dX7_soonest_21 rfl (lv_at hl 0 rfl) ?_
    refine g_get hC V (ci := 7) uwX7 0 rfl rfl 0 (by decide) w_249 rfl rfl dX7_soonest_22 ?_
    refine g_get hC V (ci := 5) uwX5 1 rfl rfl 0 (by decide) w_38 rfl rfl dX7_soonest_25 ?_
    refine lv_icmp_ne (tgt := 33) hx hb dX7_soonest_28 (by decide) (fun c_3 => ?_) (fun c_3 => ?_)
    · skip
      refine lv_aload_n hx hb dX7_soonest_33 rfl (lv_at hl 0 rfl) ?_
      refine g_get hC V (ci := 7) uwX7 0 rfl rfl 9 (by decide) w_258 rfl rfl dX7_soonest_34 ?_
      refine lv_ifnonnull (tgt := 51) hx hb dX7_soonest_37 (by decide) ?_
      refine lv_aload_n hx hb dX7_soonest_51 rfl (lv_at hl 0 rfl) ?_
      refine g_get hC V (ci := 7) uwX7 0 rfl rfl 9 (by decide) w_258 rfl rfl dX7_soonest_52 ?_
      refine lv_aload_n hx hb dX7_soonest_55 rfl (lv_at hl 0 rfl) ?_
      refine g_get hC V (ci := 7) uwX7 0 rfl rfl 0 (by decide) w_249 rfl rfl dX7_soonest_56 ?_
      refine g_callVU (nA := 1) hC V hl.1 (e_minutes l D T e0 n0 e1 e2 em e3 e4 e5 e6 ea eb ec ed ee ef nn nm nl no nu n1 n2 n3 n4 n5 n6 n7 n8 n9 n10 nf1 nf2 nf3 nf4 nf5 nf6 nf7 nf9 (by first | assumption | omega)) w_735 w_736 w_737 w_18 w_738 (by decide +kernel) rfl ⟨(Nat.le_of_ble_eq_true rfl), (Nat.le_of_ble_eq_true rfl)⟩ 10 (ci := 4) rfl rfl [10, 11, 12, 13, 14, 15, 16, 1, 2, 3, 4, 5, 6, 7, 8, 9] rfl rfl (Nat.le_of_ble_eq_true rfl) dX7_soonest_59 ⟨(Nat.le_of_ble_eq_true rfl), (Nat.le_of_ble_eq_true rfl)⟩ rfl (fun r w1 H locs hQ V => ?_)
      obtain ⟨z_4, em2_5, g1_6, g2_7, gc_8, gd_9, ge_10, gf_11, rfl, rfl, f_12⟩ := hQ
      have V : gW D T A s [(o, .inr (7, [.ref n0, .ref s0, .ref im, .ref iz, .ref rw, .ref t0, .ref u0, .ref h0, .ref y0, .ref e0])), (n0, .inr (5, [.int (nI nn), .int nm, .int nl, .int no, .int nu, .ref n1, .ref n2, .ref n3, .ref n4, .ref n5, .ref n6, .ref n7, .ref n8, .ref n9, .ref n10])), (n1, .inl (T 0, 10, .inl nf1)), (n2, .inl (T 0, 10, .inl nf2)), (n3, .inl (T 0, 10, .inl nf3)), (n4, .inl (T 0, 10, .inl nf4)), (n5, .inl (T 0, 10, .inl nf5)), (n6, .inl (T 0, 10, .inl nf6)), (n7, .inl (T 0, 10, .inl nf7)), (n9, .inl (T 0, 10, .inl nf9)), (e0, .inr (4, [.ref e1, .ref e2, .int (nI em2_5), .ref e3, .ref e4, .ref e5, .ref e6])), (e1, .inl (T 1, 3001, .inr (.inl g1_6))), (e2, .inl (T 0, 8192, .inl g2_7)), (e3, .inl (T 0, 3, .inl gc_8)), (e4, .inl (T 0, 3, .inl gd_9)), (e5, .inl (T 0, 3, .inl ge_10)), (e6, .inl (T 0, 24, .inl gf_11))] H locs := V _ [1, 0, 0, 0, 0, 0, 0, 0, 0, 0, 0, 0, 0, 0, 0, 0] rfl rfl rfl (by decide +kernel) rfl
      show W p l e _ s m args below meth c H locs _ _ _ (F0 m 62 ls [.int z_4])
      exact g_iret (Qr := (q_x_soonestB T o n0 s0 im iz rw t0 u0 h0 y0 e0 nn nm nl no nu n1 n2 n3 n4 n5 n6 n7 n8 n9 n10 nf1 nf2 nf3 nf4 nf5 nf6 nf7 nf9 e1 e2 em e3 e4 e5 e6 ea eb ec ed ee ef)) hC V ⟨(Nat.le_of_ble_eq_true rfl), (Nat.le_of_ble_eq_true rfl)⟩ ⟨z_4, (nI em2_5), g1_6, g2_7, gc_8, gd_9, ge_10, gf_11, rfl, rfl⟩ dX7_soonest_62
    · skip
      refine lv_iconst (v := (nI 0)) hx hb dX7_soonest_31 (by decide +kernel) ?_
      exact g_iret (Qr := (q_x_soonestB T o n0 s0 im iz rw t0 u0 h0 y0 e0 nn nm nl no nu n1 n2 n3 n4 n5 n6 n7 n8 n9 n10 nf1 nf2 nf3 nf4 nf5 nf6 nf7 nf9 e1 e2 em e3 e4 e5 e6 ea eb ec ed ee ef)) hC V ⟨(Nat.le_of_ble_eq_true rfl), (Nat.le_of_ble_eq_true rfl)⟩ ⟨(nI 0), em, ea, eb, ec, ed, ee, ef, rfl, rfl⟩ dX7_soonest_32
  · skip
    have c_1 := b_nle (by omega) (by omega) c_1
    refine lv_bipush (v := (-4)) hx hb dX7_soonest_11 (by decide +kernel) ?_
    exact g_iret (Qr := (q_x_soonestB T o n0 s0 im iz rw t0 u0 h0 y0 e0 nn nm nl no nu n1 n2 n3 n4 n5 n6 n7 n8 n9 n10 nf1 nf2 nf3 nf4 nf5 nf6 nf7 nf9 e1 e2 em e3 e4 e5 e6 ea eb ec ed ee ef)) hC V ⟨(Nat.le_of_ble_eq_true rfl), (Nat.le_of_ble_eq_true rfl)⟩ ⟨(-4), em, ea, eb, ec, ed, ee, ef, rfl, rfl⟩ dX7_soonest_13

def q_e_init (T : Nat → ClassId) (a0 : Nat) : Option Value → va_W → Prop := fun rr ww => (∃ (b1 : Nat) (b2 : Nat) (b3 : Nat) (b4 : Nat) (b5 : Nat) (b6 : Nat), rr = none ∧ ww = [(a0, .inr (4, [.ref b1, .ref b2, .int (nI 0), .ref b3, .ref b4, .ref b5, .ref b6])), (b1, .inl (T 1, 3001, .inr (.inl (fun _ => 0)))), (b2, .inl (T 0, 8192, .inl (fun _ => nI 0))), (b3, .inl (T 0, 3, .inl (fun _ => nI 0))), (b4, .inl (T 0, 3, .inl (fun _ => nI 0))), (b5, .inl (T 0, 3, .inl (fun _ => nI 0))), (b6, .inl (T 0, 24, .inl (fun _ => nI 0)))])
set_option maxHeartbeats 4000000 in
set_option maxRecDepth 100000 in
theorem e_init (l : Launch) (D : va_G) (T : Nat → ClassId) (a0 : Nat) : Ct l yX4_init cX4_init 1 none 1 6 11226 D T [.ref a0] [(a0, .inr (4, [.null, .null, .int (nI 0), .null, .null, .null, .null]))] (q_e_init T a0) := by
  refine Ct.of (cc := cX4_init) (maxL := 1) (ret := none) (by decide) (Nat.le_of_ble_eq_true rfl) ?_
  intro p e s m args below meth c A ls hC hnm V hl
  obtain ⟨hx, hb, hr, hml, hown, hts, hlocks⟩ := id hC
  generalize hH : s.heap = H at V ⊢
  clear hH
  have hl : lv_has ls 1 [(0, .ref a0)] := hl
  generalize hlo : ([] : List Loc) = locs at V ⊢
  clear hlo
  refine lv_aload_n hx hb dX4_init_0 rfl (lv_at hl 0 rfl) ?_
  refine g_objInit hC hl.1 w_712 w_25 w_26 dX4_init_1 (Nat.le_of_ble_eq_true rfl) (Nat.le_of_ble_eq_true rfl) (Nat.le_of_ble_eq_true rfl) ?_
  refine lv_aload_n hx hb dX4_init_4 rfl (lv_at hl 0 rfl) ?_
  refine lv_sipush (v := (nI 3001)) hx hb dX4_init_5 (by decide +kernel) ?_
  refine g_newa hC V (atype := .long) (ty := .long) w_248 rfl 1 rfl (fun _ h => by cases h) (N := 3001) (a0 := (3001, .inr (.inl (fun _ => 0)))) (fun _ => rfl) (by decide) (by decide) (Nat.le_of_ble_eq_true rfl) (Nat.le_of_ble_eq_true rfl) dX4_init_8 (fun q_1 H V => ?_)
  have V : gW D T A s [(a0, .inr (4, [.null, .null, .int (nI 0), .null, .null, .null, .null])), (q_1, .inl (T 1, 3001, .inr (.inl (fun _ => 0))))] H locs := V
  refine g_putF hC hnm V (ci := 4) uwX4 tyX4 tyX4_ok nmX4 0 rfl rfl 0 (by decide) w_713 rfl rfl rfl rfl rfl (Nat.le_of_ble_eq_true rfl) (ws' := [(a0, .inr (4, [.ref q_1, .null, .int (nI 0), .null, .null, .null, .null])), (q_1, .inl (T 1, 3001, .inr (.inl (fun _ => 0))))]) rfl dX4_init_10 (fun H locs V => ?_)
  refine lv_aload_n hx hb dX4_init_13 rfl (lv_at hl 0 rfl) ?_
  refine lv_sipush (v := (nI 8192)) hx hb dX4_init_14 (by decide +kernel) ?_
  refine g_newa hC V (atype := .int) (ty := .int) w_118 rfl 0 rfl (fun _ h => by cases h) (N := 8192) (a0 := (8192, .inl (fun _ => nI 0))) (fun _ => rfl) (by decide) (by decide) (Nat.le_of_ble_eq_true rfl) (Nat.le_of_ble_eq_true rfl) dX4_init_17 (fun q_2 H V => ?_)
  have V : gW D T A s [(a0, .inr (4, [.ref q_1, .null, .int (nI 0), .null, .null, .null, .null])), (q_1, .inl (T 1, 3001, .inr (.inl (fun _ => 0)))), (q_2, .inl (T 0, 8192, .inl (fun _ => nI 0)))] H locs := V
  refine g_putF hC hnm V (ci := 4) uwX4 tyX4 tyX4_ok nmX4 0 rfl rfl 1 (by decide) w_714 rfl rfl rfl rfl rfl (Nat.le_of_ble_eq_true rfl) (ws' := [(a0, .inr (4, [.ref q_1, .ref q_2, .int (nI 0), .null, .null, .null, .null])), (q_1, .inl (T 1, 3001, .inr (.inl (fun _ => 0)))), (q_2, .inl (T 0, 8192, .inl (fun _ => nI 0)))]) rfl dX4_init_19 (fun H locs V => ?_)
  refine lv_aload_n hx hb dX4_init_22 rfl (lv_at hl 0 rfl) ?_
  refine lv_iconst (v := (nI 3)) hx hb dX4_init_23 (by decide +kernel) ?_
  refine g_newa hC V (atype := .int) (ty := .int) w_118 rfl 0 rfl (fun _ h => by cases h) (N := 3) (a0 := (3, .inl (fun _ => nI 0))) (fun _ => rfl) (by decide) (by decide) (Nat.le_of_ble_eq_true rfl) (Nat.le_of_ble_eq_true rfl) dX4_init_24 (fun q_3 H V => ?_)
  have V : gW D T A s [(a0, .inr (4, [.ref q_1, .ref q_2, .int (nI 0), .null, .null, .null, .null])), (q_1, .inl (T 1, 3001, .inr (.inl (fun _ => 0)))), (q_2, .inl (T 0, 8192, .inl (fun _ => nI 0))), (q_3, .inl (T 0, 3, .inl (fun _ => nI 0)))] H locs := V
  refine g_putF hC hnm V (ci := 4) uwX4 tyX4 tyX4_ok nmX4 0 rfl rfl 3 (by decide) w_716 rfl rfl rfl rfl rfl (Nat.le_of_ble_eq_true rfl) (ws' := [(a0, .inr (4, [.ref q_1, .ref q_2, .int (nI 0), .ref q_3, .null, .null, .null])), (q_1, .inl (T 1, 3001, .inr (.inl (fun _ => 0)))), (q_2, .inl (T 0, 8192, .inl (fun _ => nI 0))), (q_3, .inl (T 0, 3, .inl (fun _ => nI 0)))]) rfl dX4_init_26 (fun H locs V => ?_)
  refine lv_aload_n hx hb dX4_init_29 rfl (lv_at hl 0 rfl) ?_
  refine lv_iconst (v := (nI 3)) hx hb dX4_init_30 (by decide +kernel) ?_
  refine g_newa hC V (atype := .int) (ty := .int) w_118 rfl 0 rfl (fun _ h => by cases h) (N := 3) (a0 := (3, .inl (fun _ => nI 0))) (fun _ => rfl) (by decide) (by decide) (Nat.le_of_ble_eq_true rfl) (Nat.le_of_ble_eq_true rfl) dX4_init_31 (fun q_4 H V => ?_)
  have V : gW D T A s [(a0, .inr (4, [.ref q_1, .ref q_2, .int (nI 0), .ref q_3, .null, .null, .null])), (q_1, .inl (T 1, 3001, .inr (.inl (fun _ => 0)))), (q_2, .inl (T 0, 8192, .inl (fun _ => nI 0))), (q_3, .inl (T 0, 3, .inl (fun _ => nI 0))), (q_4, .inl (T 0, 3, .inl (fun _ => nI 0)))] H locs := V
  refine g_putF hC hnm V (ci := 4) uwX4 tyX4 tyX4_ok nmX4 0 rfl rfl 4 (by decide) w_717 rfl rfl rfl rfl rfl (Nat.le_of_ble_eq_true rfl) (ws' := [(a0, .inr (4, [.ref q_1, .ref q_2, .int (nI 0), .ref q_3, .ref q_4, .null, .null])), (q_1, .inl (T 1, 3001, .inr (.inl (fun _ => 0)))), (q_2, .inl (T 0, 8192, .inl (fun _ => nI 0))), (q_3, .inl (T 0, 3, .inl (fun _ => nI 0))), (q_4, .inl (T 0, 3, .inl (fun _ => nI 0)))]) rfl dX4_init_33 (fun H locs V => ?_)
  refine lv_aload_n hx hb dX4_init_36 rfl (lv_at hl 0 rfl) ?_
  refine lv_iconst (v := (nI 3)) hx hb dX4_init_37 (by decide +kernel) ?_
  refine g_newa hC V (atype := .int) (ty := .int) w_118 rfl 0 rfl (fun _ h => by cases h) (N := 3) (a0 := (3, .inl (fun _ => nI 0))) (fun _ => rfl) (by decide) (by decide) (Nat.le_of_ble_eq_true rfl) (Nat.le_of_ble_eq_true rfl) dX4_init_38 (fun q_5 H V => ?_)
  have V : gW D T A s [(a0, .inr (4, [.ref q_1, .ref q_2, .int (nI 0), .ref q_3, .ref q_4, .null, .null])), (q_1, .inl (T 1, 3001, .inr (.inl (fun _ => 0)))), (q_2, .inl (T 0, 8192, .inl (fun _ => nI 0))), (q_3, .inl (T 0, 3, .inl (fun _ => nI 0))), (q_4, .inl (T 0, 3, .inl (fun _ => nI 0))), (q_5, .inl (T 0, 3, .inl (fun _ => nI 0)))] H locs := V
  refine g_putF hC hnm V (ci := 4) uwX4 tyX4 tyX4_ok nmX4 0 rfl rfl 5 (by decide) w_718 rfl rfl rfl rfl rfl (Nat.le_of_ble_eq_true rfl) (ws' := [(a0, .inr (4, [.ref q_1, .ref q_2, .int (nI 0), .ref q_3, .ref q_4, .ref q_5, .null])), (q_1, .inl (T 1, 3001, .inr (.inl (fun _ => 0)))), (q_2, .inl (T 0, 8192, .inl (fun _ => nI 0))), (q_3, .inl (T 0, 3, .inl (fun _ => nI 0))), (q_4, .inl (T 0, 3, .inl (fun _ => nI 0))), (q_5, .inl (T 0, 3, .inl (fun _ => nI 0)))]) rfl dX4_init_40 (fun H locs V => ?_)
  refine lv_aload_n hx hb dX4_init_43 rfl (lv_at hl 0 rfl) ?_
  refine lv_bipush (v := (nI 24)) hx hb dX4_init_44 (by decide +kernel) ?_
  refine g_newa hC V (atype := .int) (ty := .int) w_118 rfl 0 rfl (fun _ h => by cases h) (N := 24) (a0 := (24, .inl (fun _ => nI 0))) (fun _ => rfl) (by decide) (by decide) (Nat.le_of_ble_eq_true rfl) (Nat.le_of_ble_eq_true rfl) dX4_init_46 (fun q_6 H V => ?_)
  have V : gW D T A s [(a0, .inr (4, [.ref q_1, .ref q_2, .int (nI 0), .ref q_3, .ref q_4, .ref q_5, .null])), (q_1, .inl (T 1, 3001, .inr (.inl (fun _ => 0)))), (q_2, .inl (T 0, 8192, .inl (fun _ => nI 0))), (q_3, .inl (T 0, 3, .inl (fun _ => nI 0))), (q_4, .inl (T 0, 3, .inl (fun _ => nI 0))), (q_5, .inl (T 0, 3, .inl (fun _ => nI 0))), (q_6, .inl (T 0, 24, .inl (fun _ => nI 0)))] H locs := V
  refine g_putF hC hnm V (ci := 4) uwX4 tyX4 tyX4_ok nmX4 0 rfl rfl 6 (by decide) w_719 rfl rfl rfl rfl rfl (Nat.le_of_ble_eq_true rfl) (ws' := [(a0, .inr (4, [.ref q_1, .ref q_2, .int (nI 0), .ref q_3, .ref q_4, .ref q_5, .ref q_6])), (q_1, .inl (T 1, 3001, .inr (.inl (fun _ => 0)))), (q_2, .inl (T 0, 8192, .inl (fun _ => nI 0))), (q_3, .inl (T 0, 3, .inl (fun _ => nI 0))), (q_4, .inl (T 0, 3, .inl (fun _ => nI 0))), (q_5, .inl (T 0, 3, .inl (fun _ => nI 0))), (q_6, .inl (T 0, 24, .inl (fun _ => nI 0)))]) rfl dX4_init_48 (fun H locs V => ?_)
  exact g_vret (Qr := (q_e_init T a0)) hC V ⟨(Nat.le_of_ble_eq_true rfl), (Nat.le_of_ble_eq_true rfl)⟩ ⟨q_1, q_2, q_3, q_4, q_5, q_6, rfl, rfl⟩ dX4_init_51

def q_x_soonestA (T : Nat → ClassId) (o : Nat) (n0 : Nat) (s0 : Nat) (im : Nat) (iz : Nat) (rw : Nat) (t0 : Nat) (u0 : Nat) (h0 : Nat) (y0 : Nat) (nn : Nat) (nm : Int32) (nl : Int32) (no : Int32) (nu : Int32) (n1 : Nat) (n2 : Nat) (n3 : Nat) (n4 : Nat) (n5 : Nat) (n6 : Nat) (n7 : Nat) (n8 : Nat) (n9 : Nat) (n10 : Nat) (nf1 : Nat → Int32) (nf2 : Nat → Int32) (nf3 : Nat → Int32) (nf4 : Nat → Int32) (nf5 : Nat → Int32) (nf6 : Nat → Int32) (nf7 : Nat → Int32) (nf9 : Nat → Int32) : Option Value → va_W → Prop := fun rr ww => (∃ (z : Int32), rr = some (.int z) ∧ ww = [(o, .inr (7, [.ref n0, .ref s0, .ref im, .ref iz, .ref rw, .ref t0, .ref u0, .ref h0, .ref y0, .null])), (n0, .inr (5, [.int (nI nn), .int nm, .int nl, .int no, .int nu, .ref n1, .ref n2, .ref n3, .ref n4, .ref n5, .ref n6, .ref n7, .ref n8, .ref n9, .ref n10])), (n1, .inl (T 0, 10, .inl nf1)), (n2, .inl (T 0, 10, .inl nf2)), (n3, .inl (T 0, 10, .inl nf3)), (n4, .inl (T 0, 10, .inl nf4)), (n5, .inl (T 0, 10, .inl nf5)), (n6, .inl (T 0, 10, .inl nf6)), (n7, .inl (T 0, 10, .inl nf7)), (n9, .inl (T 0, 10, .inl nf9))]) ∨ (∃ (z : Int32) (e0 : Nat) (e1 : Nat) (e2 : Nat) (e3 : Nat) (e4 : Nat) (e5 : Nat) (e6 : Nat) (em2 : Int32) (g1 : Nat → Int64) (g2 : Nat → Int32) (gc : Nat → Int32) (gd : Nat → Int32) (ge : Nat → Int32) (gf : Nat → Int32), rr = some (.int z) ∧ ww = [(o, .inr (7, [.ref n0, .ref s0, .ref im, .ref iz, .ref rw, .ref t0, .ref u0, .ref h0, .ref y0, .ref e0])), (n0, .inr (5, [.int (nI nn), .int nm, .int nl, .int no, .int nu, .ref n1, .ref n2, .ref n3, .ref n4, .ref n5, .ref n6, .ref n7, .ref n8, .ref n9, .ref n10])), (n1, .inl (T 0, 10, .inl nf1)), (n2, .inl (T 0, 10, .inl nf2)), (n3, .inl (T 0, 10, .inl nf3)), (n4, .inl (T 0, 10, .inl nf4)), (n5, .inl (T 0, 10, .inl nf5)), (n6, .inl (T 0, 10, .inl nf6)), (n7, .inl (T 0, 10, .inl nf7)), (n9, .inl (T 0, 10, .inl nf9)), (e0, .inr (4, [.ref e1, .ref e2, .int em2, .ref e3, .ref e4, .ref e5, .ref e6])), (e1, .inl (T 1, 3001, .inr (.inl g1))), (e2, .inl (T 0, 8192, .inl g2)), (e3, .inl (T 0, 3, .inl gc)), (e4, .inl (T 0, 3, .inl gd)), (e5, .inl (T 0, 3, .inl ge)), (e6, .inl (T 0, 24, .inl gf))])
set_option maxHeartbeats 4000000 in
set_option maxRecDepth 100000 in
theorem x_soonestA (l : Launch) (D : va_G) (T : Nat → ClassId) (o : Nat) (n0 : Nat) (s0 : Nat) (im : Nat) (iz : Nat) (rw : Nat) (t0 : Nat) (u0 : Nat) (h0 : Nat) (y0 : Nat) (nn : Nat) (nm : Int32) (nl : Int32) (no : Int32) (nu : Int32) (n1 : Nat) (n2 : Nat) (n3 : Nat) (n4 : Nat) (n5 : Nat) (n6 : Nat) (n7 : Nat) (n8 : Nat) (n9 : Nat) (n10 : Nat) (nf1 : Nat → Int32) (nf2 : Nat → Int32) (nf3 : Nat → Int32) (nf4 : Nat → Int32) (nf5 : Nat → Int32) (nf6 : Nat → Int32) (nf7 : Nat → Int32) (nf9 : Nat → Int32) (h_n : nn ≤ 10) : Ct l yX7_soonest cX7_soonest 1 (some .int) 5 7 11233 D T [.ref o] [(o, .inr (7, [.ref n0, .ref s0, .ref im, .ref iz, .ref rw, .ref t0, .ref u0, .ref h0, .ref y0, .null])), (n0, .inr (5, [.int (nI nn), .int nm, .int nl, .int no, .int nu, .ref n1, .ref n2, .ref n3, .ref n4, .ref n5, .ref n6, .ref n7, .ref n8, .ref n9, .ref n10])), (n1, .inl (T 0, 10, .inl nf1)), (n2, .inl (T 0, 10, .inl nf2)), (n3, .inl (T 0, 10, .inl nf3)), (n4, .inl (T 0, 10, .inl nf4)), (n5, .inl (T 0, 10, .inl nf5)), (n6, .inl (T 0, 10, .inl nf6)), (n7, .inl (T 0, 10, .inl nf7)), (n9, .inl (T 0, 10, .inl nf9))] (q_x_soonestA T o n0 s0 im iz rw t0 u0 h0 y0 nn nm nl no nu n1 n2 n3 n4 n5 n6 n7 n8 n9 n10 nf1 nf2 nf3 nf4 nf5 nf6 nf7 nf9) := by
  refine Ct.of (cc := cX7_soonest) (maxL := 1) (ret := (some .int)) (by decide) (Nat.le_of_ble_eq_true rfl) ?_
  intro p e s m args below meth c A ls hC hnm V hl
  obtain ⟨hx, hb, hr, hml, hown, hts, hlocks⟩ := id hC
  generalize hH : s.heap = H at V ⊢
  clear hH
  have hl : lv_has ls 1 [(0, .ref o)] := hl
  generalize hlo : ([] : List Loc) = locs at V ⊢
  clear hlo
  refine lv_aload_n hx hb dX7_soonest_0 rfl (lv_at hl 0 rfl) ?_
  refine g_get hC V (ci := 7) uwX7 0 rfl rfl 0 (by decide) w_249 rfl rfl dX7_soonest_1 ?_
  refine g_get hC V (ci := 5) uwX5 1 rfl rfl 0 (by decide) w_38 rfl rfl dX7_soonest_4 ?_
  refine lv_iconst (v := (nI 3)) hx hb dX7_soonest_7 (by decide +kernel) ?_
  refine lv_icmp_le (tgt := 14) hx hb dX7_soonest_8 (by decide) (fun c_1 => ?_) (fun c_1 => ?_)
  · skip
    have c_1 := b_le (by omega) (by omega) c_1
    refine lv_aload_n hx hb dX7_soonest_14 rfl (lv_at hl 0 rfl) ?_
    refine g_get hC V (ci := 7) uwX7 0 rfl rfl 0 (by decide) w_249 rfl rfl dX7_soonest_15 ?_
    refine g_callVU (nA := 0) hC V hl.1 (s_piecesDone l D T n0 nn nm nl no nu n1 n2 n3 n4 n5 n6 n7 n8 n9 n10 nf6 nf7 (by first | assumption | omega)) w_516 w_517 w_518 w_3 w_519 (by decide +kernel) rfl ⟨(Nat.le_of_ble_eq_true rfl), (Nat.le_of_ble_eq_true rfl)⟩ 1 (ci := 5) rfl rfl [1, 7, 8] rfl rfl (Nat.le_of_ble_eq_true rfl) dX7_soonest_18 ⟨(Nat.le_of_ble_eq_true rfl), (Nat.le_of_ble_eq_true rfl)⟩ rfl (fun r w1 H locs hQ V => ?_)
    obtain ⟨z_2, rfl, rfl⟩ := hQ
    have V : gW D T A s [(o, .inr (7, [.ref n0, .ref s0, .ref im, .ref iz, .ref rw, .ref t0, .ref u0, .ref h0, .ref y0, .null])), (n0, .inr (5, [.int (nI nn), .int nm, .int nl, .int no, .int nu, .ref n1, .ref n2, .ref n3, .ref n4, .ref n5, .ref n6, .ref n7, .ref n8, .ref n9, .ref n10])), (n1, .inl (T 0, 10, .inl nf1)), (n2, .inl (T 0, 10, .inl nf2)), (n3, .inl (T 0, 10, .inl nf3)), (n4, .inl (T 0, 10, .inl nf4)), (n5, .inl (T 0, 10, .inl nf5)), (n6, .inl (T 0, 10, .inl nf6)), (n7, .inl (T 0, 10, .inl nf7)), (n9, .inl (T 0, 10, .inl nf9))] H locs := V _ [1, 5, 0] rfl rfl rfl (by decide +kernel) rfl
    show W p l e _ s m args below meth c H locs _ _ _ (F0 m 21 ls [.int z_2])
    refine lv_aload_n hx hb dX7_soonest_21 rfl (lv_at hl 0 rfl) ?_
    refine g_get hC V (ci := 7) uwX7 0 rfl rfl 0 (by decide) w_249 rfl rfl dX7_soonest_22 ?_
    refine g_get hC V (ci := 5) uwX5 1 rfl rfl 0 (by decide) w_38 rfl rfl dX7_soonest_25 ?_
    refine lv_icmp_ne (tgt := 33) hx hb dX7_soonest_28 (by decide) (fun c_3 => ?_) (fun c_3 => ?_)
    · skip
      refine lv_aload_n hx hb dX7_soonest_33 rfl (lv_at hl 0 rfl) ?_
      refine g_get hC V (ci := 7) uwX7 0 rfl rfl 9 (by decide) w_258 rfl rfl dX7_soonest_34 ?_
      refine lv_ifnonnullN hx hb dX7_soonest_37 ?_
      refine lv_aload_n hx hb dX7_soonest_40 rfl (lv_at hl 0 rfl) ?_
      refine g_new hC V (ci := 4) uwX4 tyX4 tyX4_ok w_707 w_708 w_18 rfl (fs := [.null, .null, .int (nI 0), .null, .null, .null, .null]) (by decide +kernel) (Nat.le_of_ble_eq_true rfl) (Nat.le_of_ble_eq_true rfl) dX7_soonest_41 (fun q_4 H V => ?_)
      have V : gW D T A s [(o, .inr (7, [.ref n0, .ref s0, .ref im, .ref iz, .ref rw, .ref t0, .ref u0, .ref h0, .ref y0, .null])), (n0, .inr (5, [.int (nI nn), .int nm, .int nl, .int no, .int nu, .ref n1, .ref n2, .ref n3, .ref n4, .ref n5, .ref n6, .ref n7, .ref n8, .ref n9, .ref n10])), (n1, .inl (T 0, 10, .inl nf1)), (n2, .inl (T 0, 10, .inl nf2)), (n3, .inl (T 0, 10, .inl nf3)), (n4, .inl (T 0, 10, .inl nf4)), (n5, .inl (T 0, 10, .inl nf5)), (n6, .inl (T 0, 10, .inl nf6)), (n7, .inl (T 0, 10, .inl nf7)), (n9, .inl (T 0, 10, .inl nf9)), (q_4, .inr (4, [.null, .null, .int (nI 0), .null, .null, .null, .null]))] H locs := V
      refine lv_dup hx hb dX7_soonest_44 rfl ?_
      refine g_callIN (wr := [(o, .inr (7, [.ref n0, .ref s0, .ref im, .ref iz, .ref rw, .ref t0, .ref u0, .ref h0, .ref y0, .null])), (n0, .inr (5, [.int (nI nn), .int nm, .int nl, .int no, .int nu, .ref n1, .ref n2, .ref n3, .ref n4, .ref n5, .ref n6, .ref n7, .ref n8, .ref n9, .ref n10])), (n1, .inl (T 0, 10, .inl nf1)), (n2, .inl (T 0, 10, .inl nf2)), (n3, .inl (T 0, 10, .inl nf3)), (n4, .inl (T 0, 10, .inl nf4)), (n5, .inl (T 0, 10, .inl nf5)), (n6, .inl (T 0, 10, .inl nf6)), (n7, .inl (T 0, 10, .inl nf7)), (n9, .inl (T 0, 10, .inl nf9))]) (nA := 0) (host := RX7) hC V hl.1 (e_init l D T q_4) w_711 (List.mem_of_getElem? (i := 0) rfl) w_18 w_710 rfl (by decide +kernel) rfl ⟨(Nat.le_of_ble_eq_true rfl), (Nat.le_of_ble_eq_true rfl)⟩ [10] [0, 1, 2, 3, 4, 5, 6, 7, 8, 9] rfl rfl rfl rfl (by decide) (Nat.le_of_ble_eq_true rfl) dX7_soonest_45 ⟨(Nat.le_of_ble_eq_true rfl), (Nat.le_of_ble_eq_true rfl)⟩ rfl (fun r w1 H locs hQ V => ?_)
      obtain ⟨b1_5, b2_6, b3_7, b4_8, b5_9, b6_10, rfl, rfl⟩ := hQ
      have V : gW D T A s [(o, .inr (7, [.ref n0, .ref s0, .ref im, .ref iz, .ref rw, .ref t0, .ref u0, .ref h0, .ref y0, .null])), (n0, .inr (5, [.int (nI nn), .int nm, .int nl, .int no, .int nu, .ref n1, .ref n2, .ref n3, .ref n4, .ref n5, .ref n6, .ref n7, .ref n8, .ref n9, .ref n10])), (n1, .inl (T 0, 10, .inl nf1)), (n2, .inl (T 0, 10, .inl nf2)), (n3, .inl (T 0, 10, .inl nf3)), (n4, .inl (T 0, 10, .inl nf4)), (n5, .inl (T 0, 10, .inl nf5)), (n6, .inl (T 0, 10, .inl nf6)), (n7, .inl (T 0, 10, .inl nf7)), (n9, .inl (T 0, 10, .inl nf9)), (q_4, .inr (4, [.ref b1_5, .ref b2_6, .int (nI 0), .ref b3_7, .ref b4_8, .ref b5_9, .ref b6_10])), (b1_5, .inl (T 1, 3001, .inr (.inl (fun _ => 0)))), (b2_6, .inl (T 0, 8192, .inl (fun _ => nI 0))), (b3_7, .inl (T 0, 3, .inl (fun _ => nI 0))), (b4_8, .inl (T 0, 3, .inl (fun _ => nI 0))), (b5_9, .inl (T 0, 3, .inl (fun _ => nI 0))), (b6_10, .inl (T 0, 24, .inl (fun _ => nI 0)))] H locs := V
      show W p l e _ s m args below meth c H locs _ _ _ (F0 m 48 ls [.ref q_4, .ref o])
      refine g_put hC V (ci := 7) uwX7 tyX7 tyX7_ok nmX7 0 rfl rfl 9 (by decide) w_258 rfl rfl rfl rfl (Nat.le_of_ble_eq_true rfl) (ws' := [(o, .inr (7, [.ref n0, .ref s0, .ref im, .ref iz, .ref rw, .ref t0, .ref u0, .ref h0, .ref y0, .ref q_4])), (n0, .inr (5, [.int (nI nn), .int nm, .int nl, .int no, .int nu, .ref n1, .ref n2, .ref n3, .ref n4, .ref n5, .ref n6, .ref n7, .ref n8, .ref n9, .ref n10])), (n1, .inl (T 0, 10, .inl nf1)), (n2, .inl (T 0, 10, .inl nf2)), (n3, .inl (T 0, 10, .inl nf3)), (n4, .inl (T 0, 10, .inl nf4)), (n5, .inl (T 0, 10, .inl nf5)), (n6, .inl (T 0, 10, .inl nf6)), (n7, .inl (T 0, 10, .inl nf7)), (n9, .inl (T 0, 10, .inl nf9)), (q_4, .inr (4, [.ref b1_5, .ref b2_6, .int (nI 0), .ref b3_7, .ref b4_8, .ref b5_9, .ref b6_10])), (b1_5, .inl (T 1, 3001, .inr (.inl (fun _ => 0)))), (b2_6, .inl (T 0, 8192, .inl (fun _ => nI 0))), (b3_7, .inl (T 0, 3, .inl (fun _ => nI 0))), (b4_8, .inl (T 0, 3, .inl (fun _ => nI 0))), (b5_9, .inl (T 0, 3, .inl (fun _ => nI 0))), (b6_10, .inl (T 0, 24, .inl (fun _ => nI 0)))]) rfl dX7_soonest_48 (fun H locs V => ?_)
      refine lv_aload_n hx hb dX7_soonest_51 rfl (lv_at hl 0 rfl) ?_
      refine g_get hC V (ci := 7) uwX7 0 rfl rfl 9 (by decide) w_258 rfl rfl dX7_soonest_52 ?_
      refine lv_aload_n hx hb dX7_soonest_55 rfl (lv_at hl 0 rfl) ?_
      refine g_get hC V (ci := 7) uwX7 0 rfl rfl 0 (by decide) w_249 rfl rfl dX7_soonest_56 ?_
      refine g_callVU (nA := 1) hC V hl.1 (e_minutes l D T q_4 n0 b1_5 b2_6 (nI 0) b3_7 b4_8 b5_9 b6_10 (fun _ => 0) (fun _ => nI 0) (fun _ => nI 0) (fun _ => nI 0) (fun _ => nI 0) (fun _ => nI 0) nn nm nl no nu n1 n2 n3 n4 n5 n6 n7 n8 n9 n10 nf1 nf2 nf3 nf4 nf5 nf6 nf7 nf9 (by first | assumption | omega)) w_735 w_736 w_737 w_18 w_738 (by decide +kernel) rfl ⟨(Nat.le_of_ble_eq_true rfl), (Nat.le_of_ble_eq_true rfl)⟩ 10 (ci := 4) rfl rfl [10, 11, 12, 13, 14, 15, 16, 1, 2, 3, 4, 5, 6, 7, 8, 9] rfl rfl (Nat.le_of_ble_eq_true rfl) dX7_soonest_59 ⟨(Nat.le_of_ble_eq_true rfl), (Nat.le_of_ble_eq_true rfl)⟩ rfl (fun r w1 H locs hQ V => ?_)
      obtain ⟨z_11, em2_12, g1_13, g2_14, gc_15, gd_16, ge_17, gf_18, rfl, rfl, f_19⟩ := hQ
      have V : gW D T A s [(o, .inr (7, [.ref n0, .ref s0, .ref im, .ref iz, .ref rw, .ref t0, .ref u0, .ref h0, .ref y0, .ref q_4])), (n0, .inr (5, [.int (nI nn), .int nm, .int nl, .int no, .int nu, .ref n1, .ref n2, .ref n3, .ref n4, .ref n5, .ref n6, .ref n7, .ref n8, .ref n9, .ref n10])), (n1, .inl (T 0, 10, .inl nf1)), (n2, .inl (T 0, 10, .inl nf2)), (n3, .inl (T 0, 10, .inl nf3)), (n4, .inl (T 0, 10, .inl nf4)), (n5, .inl (T 0, 10, .inl nf5)), (n6, .inl (T 0, 10, .inl nf6)), (n7, .inl (T 0, 10, .inl nf7)), (n9, .inl (T 0, 10, .inl nf9)), (q_4, .inr (4, [.ref b1_5, .ref b2_6, .int (nI em2_12), .ref b3_7, .ref b4_8, .ref b5_9, .ref b6_10])), (b1_5, .inl (T 1, 3001, .inr (.inl g1_13))), (b2_6, .inl (T 0, 8192, .inl g2_14)), (b3_7, .inl (T 0, 3, .inl gc_15)), (b4_8, .inl (T 0, 3, .inl gd_16)), (b5_9, .inl (T 0, 3, .inl ge_17)), (b6_10, .inl (T 0, 24, .inl gf_18))] H locs := V _ [1, 0, 0, 0, 0, 0, 0, 0, 0, 0, 0, 0, 0, 0, 0, 0] rfl rfl rfl (by decide +kernel) rfl
      show W p l e _ s m args below meth c H locs _ _ _ (F0 m 62 ls [.int z_11])
      exact g_iret (Qr := (q_x_soonestA T o n0 s0 im iz rw t0 u0 h0 y0 nn nm nl no nu n1 n2 n3 n4 n5 n6 n7 n8 n9 n10 nf1 nf2 nf3 nf4 nf5 nf6 nf7 nf9)) hC V ⟨(Nat.le_of_ble_eq_true rfl), (Nat.le_of_ble_eq_true rfl)⟩ (.inr ⟨z_11, q_4, b1_5, b2_6, b3_7, b4_8, b5_9, b6_10, (nI em2_12), g1_13, g2_14, gc_15, gd_16, ge_17, gf_18, rfl, rfl⟩) dX7_soonest_62
    · skip
      refine lv_iconst (v := (nI 0)) hx hb dX7_soonest_31 (by decide +kernel) ?_
      exact g_iret (Qr := (q_x_soonestA T o n0 s0 im iz rw t0 u0 h0 y0 nn nm nl no nu n1 n2 n3 n4 n5 n6 n7 n8 n9 n10 nf1 nf2 nf3 nf4 nf5 nf6 nf7 nf9)) hC V ⟨(Nat.le_of_ble_eq_true rfl), (Nat.le_of_ble_eq_true rfl)⟩ (.inl ⟨(nI 0), rfl, rfl⟩) dX7_soonest_32
  · skip
    have c_1 := b_nle (by omega) (by omega) c_1
    refine lv_bipush (v := (-4)) hx hb dX7_soonest_11 (by decide +kernel) ?_
    exact g_iret (Qr := (q_x_soonestA T o n0 s0 im iz rw t0 u0 h0 y0 nn nm nl no nu n1 n2 n3 n4 n5 n6 n7 n8 n9 n10 nf1 nf2 nf3 nf4 nf5 nf6 nf7 nf9)) hC V ⟨(Nat.le_of_ble_eq_true rfl), (Nat.le_of_ble_eq_true rfl)⟩ (.inl ⟨(-4), rfl, rfl⟩) dX7_soonest_13
