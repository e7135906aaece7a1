def q_z_coder (T : Nat → ClassId) (si : Nat) : Option Value → va_W → Prop := fun rr ww => (rr = some (.int (nI 0)) ∧ ww = [])
set_option maxHeartbeats 4000000 in
set_option maxRecDepth 100000 in
theorem z_coder (l : Launch) (D : va_G) (T : Nat → ClassId) (si : Nat) (h_i : si < 9) : Ct l yJ0_coder_7d493 cJ0_coder_7d493 1 (some .byte) 0 0 0 D T [.ref (D.2 9 si)] [] (q_z_coder T si) := by
  refine Ct.ofF (cc := cJ0_coder_7d493) (maxL := 1) (ret := (some .byte)) (by decide +kernel) (Nat.le_of_ble_eq_true rfl) ?_
  intro p e s m args below meth c A ls hC hnm V hl
  obtain ⟨hx, hb, hr, hml, hown, hts, hlocks⟩ := id hC
  generalize hH : s.heap = H at V ⊢
  clear hH
  have hl : lv_has ls 1 [(0, .ref (D.2 9 si))] := hl
  generalize hlo : ([] : List Loc) = locs at V ⊢
  clear hlo
  refine g_scs hC V w_334 dJ0_coder_7d493_0 ?_
  refine g_vi (y := (nI 1)) (by decide +kernel) ?_
  refine lv_if_eq (tgt := 13) hx hb dJ0_coder_7d493_3 (by decide) (fun c => absurd (show (nI 1) = 0 from c) (by decide +kernel)) (fun _ => ?_)
  refine lv_aload_n hx hb dJ0_coder_7d493_6 rfl (lv_at hl 0 rfl) ?_
  refine g_scod hC V (si := si) (by first | assumption | decide) w_1413 dJ0_coder_7d493_7 ?_
  refine g_vi (y := (nI 0)) (by decide +kernel) ?_
  refine lv_goto (tgt := 14) hx hb dJ0_coder_7d493_10 (by decide) ?_
  exact g_nret (Qr := (q_z_coder T si)) hC V ⟨(Nat.le_of_ble_eq_true rfl), (Nat.le_of_ble_eq_true rfl)⟩ (by first | decide +kernel | exact rfl) ⟨rfl, rfl⟩ dJ0_coder_7d493_14

def q_z_isLatin1 (T : Nat → ClassId) (si : Nat) : Option Value → va_W → Prop := fun rr ww => (rr = some (.int (nI 1)) ∧ ww = [])
set_option maxHeartbeats 4000000 in
set_option maxRecDepth 100000 in
theorem z_isLatin1 (l : Launch) (D : va_G) (T : Nat → ClassId) (si : Nat) (h_i : si < 9) : Ct l yJ0_isLatin1_aae02 cJ0_isLatin1_aae02 1 (some .boolean) 0 0 0 D T [.ref (D.2 9 si)] [] (q_z_isLatin1 T si) := by
  refine Ct.ofF (cc := cJ0_isLatin1_aae02) (maxL := 1) (ret := (some .boolean)) (by decide +kernel) (Nat.le_of_ble_eq_true rfl) ?_
  intro p e s m args below meth c A ls hC hnm V hl
  obtain ⟨hx, hb, hr, hml, hown, hts, hlocks⟩ := id hC
  generalize hH : s.heap = H at V ⊢
  clear hH
  have hl : lv_has ls 1 [(0, .ref (D.2 9 si))] := hl
  generalize hlo : ([] : List Loc) = locs at V ⊢
  clear hlo
  refine g_scs hC V w_334 dJ0_isLatin1_aae02_0 ?_
  refine g_vi (y := (nI 1)) (by decide +kernel) ?_
  refine lv_if_eq (tgt := 17) hx hb dJ0_isLatin1_aae02_3 (by decide) (fun c => absurd (show (nI 1) = 0 from c) (by decide +kernel)) (fun _ => ?_)
  refine lv_aload_n hx hb dJ0_isLatin1_aae02_6 rfl (lv_at hl 0 rfl) ?_
  refine g_scod hC V (si := si) (by first | assumption | decide) w_1413 dJ0_isLatin1_aae02_7 ?_
  refine g_vi (y := (nI 0)) (by decide +kernel) ?_
  refine lv_if_ne (tgt := 17) hx hb dJ0_isLatin1_aae02_10 (by decide) (fun c => absurd (show (nI 0) = 0 by decide +kernel) c) (fun _ => ?_)
  refine lv_iconst (v := (nI 1)) hx hb dJ0_isLatin1_aae02_13 (by decide +kernel) ?_
  refine lv_goto (tgt := 18) hx hb dJ0_isLatin1_aae02_14 (by decide) ?_
  exact g_zret (Qr := (q_z_isLatin1 T si)) hC V ⟨(Nat.le_of_ble_eq_true rfl), (Nat.le_of_ble_eq_true rfl)⟩ (by first | decide +kernel | exact rfl) ⟨rfl, rfl⟩ dJ0_isLatin1_aae02_18

def q_z_length (T : Nat → ClassId) (si : Nat) : Option Value → va_W → Prop := fun rr ww => (rr = some (.int (nI (sLen.getD si 0))) ∧ ww = [])
set_option maxHeartbeats 4000000 in
set_option maxRecDepth 100000 in
theorem z_length (l : Launch) (D : va_G) (T : Nat → ClassId) (si : Nat) (h_i : si < 9) : Ct l yJ0_length_8abf5 cJ0_length_8abf5 1 (some .int) 1 0 0 D T [.ref (D.2 9 si)] [] (q_z_length T si) := by
  refine Ct.ofF (cc := cJ0_length_8abf5) (maxL := 1) (ret := (some .int)) (by decide +kernel) (Nat.le_of_ble_eq_true rfl) ?_
  intro p e s m args below meth c A ls hC hnm V hl
  obtain ⟨hx, hb, hr, hml, hown, hts, hlocks⟩ := id hC
  generalize hH : s.heap = H at V ⊢
  clear hH
  have hl : lv_has ls 1 [(0, .ref (D.2 9 si))] := hl
  generalize hlo : ([] : List Loc) = locs at V ⊢
  clear hlo
  refine lv_aload_n hx hb dJ0_length_8abf5_0 rfl (lv_at hl 0 rfl) ?_
  refine g_sval hC V (si := si) (by first | assumption | decide) w_1412 dJ0_length_8abf5_1 ?_
  refine g_slen hC V (si := si) (by first | assumption | decide) dJ0_length_8abf5_4 ?_
  refine lv_aload_n hx hb dJ0_length_8abf5_5 rfl (lv_at hl 0 rfl) ?_
  refine g_callZ (wr := []) (nA := 0) hC V hl.1 (z_coder l D T si (by first | assumption | omega)) w_330 w_331 w_332 w_12 w_333 (by decide +kernel) rfl ⟨(Nat.le_of_ble_eq_true rfl), (Nat.le_of_ble_eq_true rfl)⟩ (si := si) (by first | assumption | decide) rfl rfl [] [] rfl rfl rfl rfl (by decide) (Nat.le_of_ble_eq_true rfl) dJ0_length_8abf5_6 ⟨(Nat.le_of_ble_eq_true rfl), (Nat.le_of_ble_eq_true rfl)⟩ rfl (fun r w1 H locs hQ V => ?_)
  obtain ⟨rfl, rfl⟩ := hQ
  have V : gW D T A s [] H locs := V
  show W p l e _ s m args below meth c H locs _ _ _ (F0 m 9 ls [.int (nI 0), .int (nI (sLen.getD si 0))])
  refine lv_ishr hx hb dJ0_length_8abf5_9 ?_
  refine g_vi (y := (nI (sLen.getD si 0))) (shr0 _) ?_
  exact g_iret (Qr := (q_z_length T si)) hC V ⟨(Nat.le_of_ble_eq_true rfl), (Nat.le_of_ble_eq_true rfl)⟩ ⟨rfl, rfl⟩ dJ0_length_8abf5_10

def q_z_check3 (T : Nat → ClassId) (j : Nat) (n : Nat) (fm : Nat) : Option Value → va_W → Prop := fun rr ww => (rr = some (.int (nI j)) ∧ ww = [])
set_option maxHeartbeats 4000000 in
set_option maxRecDepth 100000 in
theorem z_check3 (l : Launch) (D : va_G) (T : Nat → ClassId) (j : Nat) (n : Nat) (fm : Nat) (h_j : j < n) (h_n : n ≤ 1000) : Ct l yJ3_checkIndex_8e157 cJ3_checkIndex_8e157 3 (some .int) 0 0 0 D T [.int (nI j), .int (nI n), .ref fm] [] (q_z_check3 T j n fm) := by
  refine Ct.of (cc := cJ3_checkIndex_8e157) (maxL := 3) (ret := (some .int)) (by decide) (Nat.le_of_ble_eq_true rfl) ?_
  intro p e s m args below meth c A ls hC hnm V hl
  obtain ⟨hx, hb, hr, hml, hown, hts, hlocks⟩ := id hC
  generalize hH : s.heap = H at V ⊢
  clear hH
  have hl : lv_has ls 3 [(0, .int (nI j)), (1, .int (nI n)), (2, .ref fm)] := hl
  generalize hlo : ([] : List Loc) = locs at V ⊢
  clear hlo
  refine lv_iload_n hx hb dJ3_checkIndex_8e157_0 rfl (lv_at hl 0 rfl) ?_
  refine lv_if_lt (tgt := 9) hx hb dJ3_checkIndex_8e157_1 (by decide) (fun c_1 => ?_) (fun c_1 => ?_)
  · skip
    rw [show (0 : Int32) = nI 0 from rfl] at c_1
    have c_1 := b_lt (by omega) (by omega) c_1
    exact (by omega : False).elim
  · skip
    rw [show (0 : Int32) = nI 0 from rfl] at c_1
    have c_1 := b_nlt (by omega) (by omega) c_1
    refine lv_iload_n hx hb dJ3_checkIndex_8e157_4 rfl (lv_at hl 0 rfl) ?_
    refine lv_iload_n hx hb dJ3_checkIndex_8e157_5 rfl (lv_at hl 1 rfl) ?_
    refine lv_icmp_lt (tgt := 16) hx hb dJ3_checkIndex_8e157_6 (by decide) (fun c_2 => ?_) (fun c_2 => ?_)
    · skip
      have c_2 := b_lt (by omega) (by omega) c_2
      refine lv_iload_n hx hb dJ3_checkIndex_8e157_16 rfl (lv_at hl 0 rfl) ?_
      exact g_iret (Qr := (q_z_check3 T j n fm)) hC V ⟨(Nat.le_of_ble_eq_true rfl), (Nat.le_of_ble_eq_true rfl)⟩ ⟨rfl, rfl⟩ dJ3_checkIndex_8e157_17
    · skip
      have c_2 := b_nlt (by omega) (by omega) c_2
      exact (by omega : False).elim

def q_z_check3n (T : Nat → ClassId) (j : Nat) (n : Nat) : Option Value → va_W → Prop := fun rr ww => (rr = some (.int (nI j)) ∧ ww = [])
set_option maxHeartbeats 4000000 in
set_option maxRecDepth 100000 in
theorem z_check3n (l : Launch) (D : va_G) (T : Nat → ClassId) (j : Nat) (n : Nat) (h_j : j < n) (h_n : n ≤ 1000) : Ct l yJ3_checkIndex_8e157 cJ3_checkIndex_8e157 3 (some .int) 0 0 0 D T [.int (nI j), .int (nI n), .null] [] (q_z_check3n T j n) := by
  refine Ct.of (cc := cJ3_checkIndex_8e157) (maxL := 3) (ret := (some .int)) (by decide) (Nat.le_of_ble_eq_true rfl) ?_
  intro p e s m args below meth c A ls hC hnm V hl
  obtain ⟨hx, hb, hr, hml, hown, hts, hlocks⟩ := id hC
  generalize hH : s.heap = H at V ⊢
  clear hH
  have hl : lv_has ls 3 [(0, .int (nI j)), (1, .int (nI n)), (2, .null)] := hl
  generalize hlo : ([] : List Loc) = locs at V ⊢
  clear hlo
  refine lv_iload_n hx hb dJ3_checkIndex_8e157_0 rfl (lv_at hl 0 rfl) ?_
  refine lv_if_lt (tgt := 9) hx hb dJ3_checkIndex_8e157_1 (by decide) (fun c_1 => ?_) (fun c_1 => ?_)
  · skip
    rw [show (0 : Int32) = nI 0 from rfl] at c_1
    have c_1 := b_lt (by omega) (by omega) c_1
    exact (by omega : False).elim
  · skip
    rw [show (0 : Int32) = nI 0 from rfl] at c_1
    have c_1 := b_nlt (by omega) (by omega) c_1
    refine lv_iload_n hx hb dJ3_checkIndex_8e157_4 rfl (lv_at hl 0 rfl) ?_
    refine lv_iload_n hx hb dJ3_checkIndex_8e157_5 rfl (lv_at hl 1 rfl) ?_
    refine lv_icmp_lt (tgt := 16) hx hb dJ3_checkIndex_8e157_6 (by decide) (fun c_2 => ?_) (fun c_2 => ?_)
    · skip
      have c_2 := b_lt (by omega) (by omega) c_2
      refine lv_iload_n hx hb dJ3_checkIndex_8e157_16 rfl (lv_at hl 0 rfl) ?_
      exact g_iret (Qr := (q_z_check3n T j n)) hC V ⟨(Nat.le_of_ble_eq_true rfl), (Nat.le_of_ble_eq_true rfl)⟩ ⟨rfl, rfl⟩ dJ3_checkIndex_8e157_17
    · skip
      have c_2 := b_nlt (by omega) (by omega) c_2
      exact (by omega : False).elim

def q_z_check (T : Nat → ClassId) (j : Nat) (n : Nat) : Option Value → va_W → Prop := fun rr ww => (rr = none ∧ ww = [])
set_option maxHeartbeats 4000000 in
set_option maxRecDepth 100000 in
theorem z_check (l : Launch) (D : va_G) (T : Nat → ClassId) (j : Nat) (n : Nat) (h_j : j < n) (h_n : n ≤ 1000) : Ct l yJ0_checkIndex_df160 cJ0_checkIndex_df160 2 none 1 0 0 D T [.int (nI j), .int (nI n)] [] (q_z_check T j n) := by
  refine Ct.ofF (cc := cJ0_checkIndex_df160) (maxL := 2) (ret := none) (by decide +kernel) (Nat.le_of_ble_eq_true rfl) ?_
  intro p e s m args below meth c A ls hC hnm V hl
  obtain ⟨hx, hb, hr, hml, hown, hts, hlocks⟩ := id hC
  generalize hH : s.heap = H at V ⊢
  clear hH
  have hl : lv_has ls 2 [(0, .int (nI j)), (1, .int (nI n))] := hl
  generalize hlo : ([] : List Loc) = locs at V ⊢
  clear hlo
  refine lv_iload_n hx hb dJ0_checkIndex_df160_0 rfl (lv_at hl 0 rfl) ?_
  refine lv_iload_n hx hb dJ0_checkIndex_df160_1 rfl (lv_at hl 1 rfl) ?_
  refine g_sfm hC V w_350 dJ0_checkIndex_df160_2 (fun fmt => ?_) ?_
  · skip
    refine g_callS (wr := []) (nA := 3) hC V hl.1 (z_check3 l D T j n fmt (by first | assumption | omega) (by first | assumption | omega)) w_352 w_353 w_14 w_354 (by decide +kernel) rfl ⟨(Nat.le_of_ble_eq_true rfl), (Nat.le_of_ble_eq_true rfl)⟩ [] [] rfl rfl rfl rfl (by decide) (Nat.le_of_ble_eq_true rfl) dJ0_checkIndex_df160_5 ⟨(Nat.le_of_ble_eq_true rfl), (Nat.le_of_ble_eq_true rfl)⟩ rfl (fun r w1 H locs hQ V => ?_)
    obtain ⟨rfl, rfl⟩ := hQ
    have V : gW D T A s [] H locs := V
    show W p l e _ s m args below meth c H locs _ _ _ (F0 m 8 ls [.int (nI j)])
    refine lv_pop hx hb dJ0_checkIndex_df160_8 rfl ?_
    exact g_vret (Qr := (q_z_check T j n)) hC V ⟨(Nat.le_of_ble_eq_true rfl), (Nat.le_of_ble_eq_true rfl)⟩ ⟨rfl, rfl⟩ dJ0_checkIndex_df160_9
  · skip
    refine g_callS (wr := []) (nA := 3) hC V hl.1 (z_check3n l D T j n (by first | assumption | omega) (by first | assumption | omega)) w_352 w_353 w_14 w_354 (by decide +kernel) rfl ⟨(Nat.le_of_ble_eq_true rfl), (Nat.le_of_ble_eq_true rfl)⟩ [] [] rfl rfl rfl rfl (by decide) (Nat.le_of_ble_eq_true rfl) dJ0_checkIndex_df160_5 ⟨(Nat.le_of_ble_eq_true rfl), (Nat.le_of_ble_eq_true rfl)⟩ rfl (fun r w1 H locs hQ V => ?_)
    obtain ⟨rfl, rfl⟩ := hQ
    have V : gW D T A s [] H locs := V
    show W p l e _ s m args below meth c H locs _ _ _ (F0 m 8 ls [.int (nI j)])
    refine lv_pop hx hb dJ0_checkIndex_df160_8 rfl ?_
    exact g_vret (Qr := (q_z_check T j n)) hC V ⟨(Nat.le_of_ble_eq_true rfl), (Nat.le_of_ble_eq_true rfl)⟩ ⟨rfl, rfl⟩ dJ0_checkIndex_df160_9

def q_z_charAt1 (T : Nat → ClassId) (si : Nat) (j : Nat) : Option Value → va_W → Prop := fun rr ww => (∃ (z : Int32), rr = some (.int z) ∧ ww = [] ∧ z = sch si j)
set_option maxHeartbeats 4000000 in
set_option maxRecDepth 100000 in
theorem z_charAt1 (l : Launch) (D : va_G) (T : Nat → ClassId) (si : Nat) (j : Nat) (h_i : si < 9) (h_j : j < sLen.getD si 0) : Ct l yJ1_charAt_3b067 cJ1_charAt_3b067 2 (some .char) 2 0 0 D T [.ref (D.2 10 si), .int (nI j)] [] (q_z_charAt1 T si j) := by
  refine Ct.of (cc := cJ1_charAt_3b067) (maxL := 2) (ret := (some .char)) (by decide) (Nat.le_of_ble_eq_true rfl) ?_
  intro p e s m args below meth c A ls hC hnm V hl
  obtain ⟨hx, hb, hr, hml, hown, hts, hlocks⟩ := id hC
  generalize hH : s.heap = H at V ⊢
  clear hH
  have hl : lv_has ls 2 [(0, .ref (D.2 10 si)), (1, .int (nI j))] := hl
  generalize hlo : ([] : List Loc) = locs at V ⊢
  clear hlo
  have hsl := slen_le h_i
  refine lv_iload_n hx hb dJ1_charAt_3b067_0 rfl (lv_at hl 1 rfl) ?_
  refine lv_aload_n hx hb dJ1_charAt_3b067_1 rfl (lv_at hl 0 rfl) ?_
  refine g_slen hC V (si := si) (by first | assumption | decide) dJ1_charAt_3b067_2 ?_
  refine g_callS (wr := []) (nA := 2) hC V hl.1 (z_check l D T j (sLen.getD si 0) (by first | assumption | omega) (by first | assumption | omega)) w_347 w_348 w_12 w_349 (by decide +kernel) rfl ⟨(Nat.le_of_ble_eq_true rfl), (Nat.le_of_ble_eq_true rfl)⟩ [] [] rfl rfl rfl rfl (by decide) (Nat.le_of_ble_eq_true rfl) dJ1_charAt_3b067_3 ⟨(Nat.le_of_ble_eq_true rfl), (Nat.le_of_ble_eq_true rfl)⟩ rfl (fun r w1 H locs hQ V => ?_)
  obtain ⟨rfl, rfl⟩ := hQ
  have V : gW D T A s [] H locs := V
  show W p l e _ s m args below meth c H locs _ _ _ (F0 m 6 ls [])
  refine lv_aload_n hx hb dJ1_charAt_3b067_6 rfl (lv_at hl 0 rfl) ?_
  refine lv_iload_n hx hb dJ1_charAt_3b067_7 rfl (lv_at hl 1 rfl) ?_
  refine g_sbyt hC V (si := si) (j := j) (by first | assumption | decide) (by omega) (by omega) dJ1_charAt_3b067_8 ?_
  refine lv_sipush (v := (nI 255)) hx hb dJ1_charAt_3b067_9 (by decide +kernel) ?_
  refine lv_iand hx hb dJ1_charAt_3b067_12 ?_
  refine lv_i2c hx hb dJ1_charAt_3b067_13 rfl ?_
  exact g_nret (Qr := (q_z_charAt1 T si j)) hC V ⟨(Nat.le_of_ble_eq_true rfl), (Nat.le_of_ble_eq_true rfl)⟩ (by first | decide +kernel | exact sch_nar h_i (by omega)) ⟨((((((sByt.getD si []).getD j 0) &&& (nI 255))).toUInt32 % 65536).toInt32), rfl, rfl, rfl⟩ dJ1_charAt_3b067_14

def q_z_charAt (T : Nat → ClassId) (si : Nat) (j : Nat) : Option Value → va_W → Prop := fun rr ww => (∃ (z : Int32), rr = some (.int z) ∧ ww = [] ∧ z = sch si j)
set_option maxHeartbeats 4000000 in
set_option maxRecDepth 100000 in
theorem z_charAt (l : Launch) (D : va_G) (T : Nat → ClassId) (si : Nat) (j : Nat) (h_i : si < 9) (h_j : j < sLen.getD si 0) : Ct l yJ0_charAt_5068e cJ0_charAt_5068e 2 (some .char) 3 0 0 D T [.ref (D.2 9 si), .int (nI j)] [] (q_z_charAt T si j) := by
  refine Ct.ofF (cc := cJ0_charAt_5068e) (maxL := 2) (ret := (some .char)) (by decide +kernel) (Nat.le_of_ble_eq_true rfl) ?_
  intro p e s m args below meth c A ls hC hnm V hl
  obtain ⟨hx, hb, hr, hml, hown, hts, hlocks⟩ := id hC
  generalize hH : s.heap = H at V ⊢
  clear hH
  have hl : lv_has ls 2 [(0, .ref (D.2 9 si)), (1, .int (nI j))] := hl
  generalize hlo : ([] : List Loc) = locs at V ⊢
  clear hlo
  have hsl := slen_le h_i
  refine lv_aload_n hx hb dJ0_charAt_5068e_0 rfl (lv_at hl 0 rfl) ?_
  refine g_callZ (wr := []) (nA := 0) hC V hl.1 (z_isLatin1 l D T si (by first | assumption | omega)) w_340 w_341 w_342 w_12 w_343 (by decide +kernel) rfl ⟨(Nat.le_of_ble_eq_true rfl), (Nat.le_of_ble_eq_true rfl)⟩ (si := si) (by first | assumption | decide) rfl rfl [] [] rfl rfl rfl rfl (by decide) (Nat.le_of_ble_eq_true rfl) dJ0_charAt_5068e_1 ⟨(Nat.le_of_ble_eq_true rfl), (Nat.le_of_ble_eq_true rfl)⟩ rfl (fun r w1 H locs hQ V => ?_)
  obtain ⟨rfl, rfl⟩ := hQ
  have V : gW D T A s [] H locs := V
  show W p l e _ s m args below meth c H locs _ _ _ (F0 m 4 ls [.int (nI 1)])
  refine lv_if_eq (tgt := 16) hx hb dJ0_charAt_5068e_4 (by decide) (fun c => absurd (show (nI 1) = 0 from c) (by decide +kernel)) (fun _ => ?_)
  refine lv_aload_n hx hb dJ0_charAt_5068e_7 rfl (lv_at hl 0 rfl) ?_
  refine g_sval hC V (si := si) (by first | assumption | decide) w_1412 dJ0_charAt_5068e_8 ?_
  refine lv_iload_n hx hb dJ0_charAt_5068e_11 rfl (lv_at hl 1 rfl) ?_
  refine g_callS (wr := []) (nA := 2) hC V hl.1 (z_charAt1 l D T si j (by first | assumption | omega) (by first | assumption | omega)) w_344 w_345 w_13 w_346 (by decide +kernel) rfl ⟨(Nat.le_of_ble_eq_true rfl), (Nat.le_of_ble_eq_true rfl)⟩ [] [] rfl rfl rfl rfl (by decide) (Nat.le_of_ble_eq_true rfl) dJ0_charAt_5068e_12 ⟨(Nat.le_of_ble_eq_true rfl), (Nat.le_of_ble_eq_true rfl)⟩ rfl (fun r w1 H locs hQ V => ?_)
  obtain ⟨z_1, rfl, rfl, f_2⟩ := hQ
  have V : gW D T A s [] H locs := V
  show W p l e _ s m args below meth c H locs _ _ _ (F0 m 15 ls [.int z_1])
  exact g_nret (Qr := (q_z_charAt T si j)) hC V ⟨(Nat.le_of_ble_eq_true rfl), (Nat.le_of_ble_eq_true rfl)⟩ (by first | decide +kernel | exact (by have e : z_1 = sch si j := (by assumption); rw [e]; exact sch_nar h_i (by omega))) ⟨z_1, rfl, rfl, (by first | assumption | omega)⟩ dJ0_charAt_5068e_15
