/-! CUSTOM -/
abbrev cuStr (f : Nat → Int32) (i : Nat) : Prop := f (64 + i) < f (54 + i) ∧ warmP f i
abbrev cuPul (f : Nat → Int32) (i : Nat) : Prop := ¬ f (44 + (f (84 + i)).toNatClampNeg) < f (24 + (f (84 + i)).toNatClampNeg) + f (4 + i)
def cuSk (f : Nat → Int32) (lz : Int32) : Nat → Int32
  | 0 => nI 0
  | k + 1 => if nI k = lz then cuSk f lz k else if cuStr f k then cuSk f lz k ||| (nI 1 <<< (nI k &&& 31)) else cuSk f lz k
def cuPl (f : Nat → Int32) (lz : Int32) : Nat → Int32
  | 0 => nI 0
  | k + 1 => if nI k = lz then cuPl f lz k else if cuStr f k then cuPl f lz k else if cuPul f k then cuPl f lz k ||| (nI 1 <<< (nI k &&& 31)) else cuPl f lz k
theorem cS_lz {f : Nat → Int32} {lz : Int32} {k : Nat} (h : nI k = lz) : cuSk f lz k = cuSk f lz (k + 1) ∧ cuPl f lz k = cuPl f lz (k + 1) := ⟨(if_pos h).symm, (if_pos h).symm⟩
theorem cS_y {f : Nat → Int32} {lz : Int32} {k : Nat} (h : ¬ nI k = lz) (hs : cuStr f k) : cuSk f lz k ||| (nI 1 <<< (nI k &&& 31)) = cuSk f lz (k + 1) ∧ cuPl f lz k = cuPl f lz (k + 1) := ⟨((if_neg h).trans (if_pos hs)).symm, ((if_neg h).trans (if_pos hs)).symm⟩
theorem cP_y {f : Nat → Int32} {lz : Int32} {k : Nat} (h : ¬ nI k = lz) (hs : ¬ cuStr f k) (hp : cuPul f k) : cuSk f lz k = cuSk f lz (k + 1) ∧ cuPl f lz k ||| (nI 1 <<< (nI k &&& 31)) = cuPl f lz (k + 1) := ⟨((if_neg h).trans (if_neg hs)).symm, ((if_neg h).trans ((if_neg hs).trans (if_pos hp))).symm⟩
theorem cP_n {f : Nat → Int32} {lz : Int32} {k : Nat} (h : ¬ nI k = lz) (hs : ¬ cuStr f k) (hp : ¬ cuPul f k) : cuSk f lz k = cuSk f lz (k + 1) ∧ cuPl f lz k = cuPl f lz (k + 1) := ⟨((if_neg h).trans (if_neg hs)).symm, ((if_neg h).trans ((if_neg hs).trans (if_neg hp))).symm⟩
theorem ctr_y {k : Nat} {f g7 g6 g3 g4 g5 : Nat → Int32} (e7 : g7 k = f (64 + k)) (e6 : g6 k = f (54 + k)) (e3 : g3 k = f (24 + k)) (e4 : g4 k = f (34 + k)) (e5 : g5 k = f (44 + k)) (h2 : g7 k < g6 k) (h3 : ¬ g3 k < g4 k) (h4 : ¬ g5 k < g3 k) : cuStr f k := by
  rw [e7, e6] at h2; rw [e3, e4] at h3; rw [e5, e3] at h4
  exact ⟨h2, h3, h4⟩
theorem ctr_n {k : Nat} {f g7 g6 g3 g4 g5 : Nat → Int32} (e7 : g7 k = f (64 + k)) (e6 : g6 k = f (54 + k)) (e3 : g3 k = f (24 + k)) (e4 : g4 k = f (34 + k)) (e5 : g5 k = f (44 + k)) (h : ¬ g7 k < g6 k ∨ g3 k < g4 k ∨ g5 k < g3 k) : ¬ cuStr f k := by
  rw [e7, e6, e3, e4, e5] at h
  rintro ⟨a, b, c⟩
  rcases h with h | h | h
  · exact h a
  · exact b h
  · exact c h
theorem bea {k jt : Nat} {f : Nat → Int32} {a5 a3 b : Int32} (e : f (84 + k) = nI jt) (hj : jt < 100) (e5 : a5 = f (44 + jt)) (e3 : a3 = f (24 + jt)) (e1 : b = f (4 + k)) : (¬ a5 < a3 + b) ↔ cuPul f k := by
  unfold cuPul; rw [e, nI_clamp (by omega), e5, e3, e1]
theorem bea_m {k jt ja jb : Nat} {f : Nat → Int32} (e : f (84 + k) = nI jt) (hj : jt < 100) (e3 : f (24 + jt) = nI ja) (e1 : f (4 + k) = nI jb) : (¬ f (44 + jt) < nI (ja + jb)) ↔ cuPul f k := by
  unfold cuPul; rw [e, nI_clamp (by omega), e3, e1, nI_add]
/-- the numbers, and the strokes that counted, behind so many MINUTES of CUSTOM -/
def cuI (n : Nat) (f : Nat → Int32) (lz : Int32) : Nat → Nat → Int32
  | 0 => f
  | k + 1 => goF n (cuI n f lz k) (cuPl (cuI n f lz k) lz n) (cuSk (cuI n f lz k) lz n) (-1) (nI 0)
def cuC (n : Nat) (f : Nat → Int32) (lz : Int32) : Nat → Int32
  | 0 => nI 0
  | k + 1 => cuC n f lz k + goC (cuI n f lz k) (cuSk (cuI n f lz k) lz n) n
theorem ibf_bd (x : Int32) : bd (ibf x) 201 := by
  unfold ibf
  split
  · exact bd_nI (by decide)
  · split
    · exact bd_nI (by decide)
    · rename_i h1 h2
      exact ib_1 (Int32.not_lt.mp h1) (Int32.not_lt.mp h2)
theorem goF_o {n j : Nat} {f : Nat → Int32} {pl sk fi mr : Int32} (hn : n ≤ 10) (h1 : j ≠ 1) (h2 : j < 24 ∨ (34 ≤ j ∧ j < 64) ∨ 84 ≤ j) : goF n f pl sk fi mr j = f j := by
  unfold goF; rw [up_other h1]; exact md_other hn (Nat.le_refl _) h2
theorem goF_24 {n i : Nat} {f : Nat → Int32} {pl sk fi mr : Int32} (hn : n ≤ 10) (hi : i < n) : goF n f pl sk fi mr (24 + i) = hNw n f pl fi mr i := by
  unfold goF md; rw [up_other (by omega), if_pos (by omega), show 24 + i - 24 = i by omega]
theorem goF_64 {n i : Nat} {f : Nat → Int32} {pl sk fi mr : Int32} (hn : n ≤ 10) (hi : i < n) : goF n f pl sk fi mr (64 + i) = st2 n f pl sk fi mr i := by
  unfold goF md; rw [up_other (by omega), if_neg (by omega), if_pos (by omega), show 64 + i - 64 = i by omega]
theorem MI_go {n : Nat} {f : Nat → Int32} {pl sk fi mr : Int32} (h : MI n f) : MI n (goF n f pl sk fi mr) := by
  have hn := h.1
  refine ⟨hn, (goF_o hn (by decide) (by omega)).trans h.2.1, by rw [goF_o hn (by decide) (by omega)]; exact h.2.2.1, fun i hi => ?_⟩
  rw [goF_o hn (by omega) (by omega), goF_24 hn hi, goF_o (j := 54 + i) hn (by omega) (by omega), goF_64 hn hi, goF_o (j := 84 + i) hn (by omega) (by omega), goF_o (j := 4 + i) hn (by omega) (by omega)]
  refine ⟨mi_cool h hi, bd_le (ibf_bd _) (by decide), mi_need h hi, ?_, mi_to h hi, mi_blast h hi⟩
  obtain ⟨a, ha, ea⟩ := mi_has h hi
  obtain ⟨b, hb, eb⟩ := mi_need h hi
  obtain ⟨c, hc, ec⟩ := mi_lost h
  have hs : bd (st1 f sk i) 32 := by
    unfold st1
    split
    · rename_i q
      have q2 := q.2.1
      rw [ea, eb] at q2
      have := b_lt (by omega) (by omega) q2
      rw [ea, nI_add]; exact bd_nI (by omega)
    · rw [ea]; exact bd_nI ha
  obtain ⟨d, hd, ed⟩ := hs
  unfold st2
  split
  · split
    · rename_i q
      rw [ec, ed] at q
      have := b_lt (by omega) (by omega) q
      rw [ec, ed, nI_sub (by omega)]; exact bd_nI (by omega)
    · exact bd_nI (by decide)
  · rw [ed]; exact bd_nI hd
theorem cuI_mi {n : Nat} {f : Nat → Int32} {lz : Int32} (h : MI n f) : ∀ k, MI n (cuI n f lz k)
  | 0 => h
  | k + 1 => MI_go (cuI_mi h k)
theorem cuI_o {n j : Nat} {f : Nat → Int32} {lz : Int32} (hn : n ≤ 10) (h1 : j ≠ 1) (h2 : j < 24 ∨ (34 ≤ j ∧ j < 64) ∨ 84 ≤ j) : ∀ k, cuI n f lz k j = f j
  | 0 => rfl
  | k + 1 => (goF_o hn h1 h2).trans (cuI_o hn h1 h2 k)
theorem cuI_1 {n k : Nat} {f : Nat → Int32} {lz : Int32} : cuI n f lz (k + 1) 1 = cuI n f lz k 1 + nI 1 := by
  show goF n (cuI n f lz k) _ _ _ _ 1 = _
  unfold goF; rw [up_same]

def q_s_bears_f (T : Nat → ClassId) (a0 : Nat) (j : Nat) (b : Int32) (an : Nat) (am : Int32) (al : Int32) (ao : Int32) (au : Int32) (a1 : Nat) (a2 : Nat) (a3 : Nat) (a4 : Nat) (a5 : Nat) (a6 : Nat) (a7 : Nat) (a8 : Nat) (a9 : Nat) (a10 : Nat) (af3 : Nat → Int32) (af5 : Nat → Int32) : Option Value → va_W → Prop := fun rr ww => (rr = some (.int (nI 1)) ∧ ww = [(a0, .inr (5, [.int (nI an), .int am, .int al, .int ao, .int au, .ref a1, .ref a2, .ref a3, .ref a4, .ref a5, .ref a6, .ref a7, .ref a8, .ref a9, .ref a10])), (a3, .inl (T 0, 10, .inl af3)), (a5, .inl (T 0, 10, .inl af5))] ∧ ¬ af5 j < af3 j + b) ∨ (rr = some (.int (nI 0)) ∧ ww = [(a0, .inr (5, [.int (nI an), .int am, .int al, .int ao, .int au, .ref a1, .ref a2, .ref a3, .ref a4, .ref a5, .ref a6, .ref a7, .ref a8, .ref a9, .ref a10])), (a3, .inl (T 0, 10, .inl af3)), (a5, .inl (T 0, 10, .inl af5))] ∧ af5 j < af3 j + b)
set_option maxHeartbeats 4000000 in
set_option maxRecDepth 100000 in
theorem s_bears_f (l : Launch) (D : va_G) (T : Nat → ClassId) (a0 : Nat) (j : Nat) (b : Int32) (an : Nat) (am : Int32) (al : Int32) (ao : Int32) (au : Int32) (a1 : Nat) (a2 : Nat) (a3 : Nat) (a4 : Nat) (a5 : Nat) (a6 : Nat) (a7 : Nat) (a8 : Nat) (a9 : Nat) (a10 : Nat) (af3 : Nat → Int32) (af5 : Nat → Int32) (h_j : j < 10) : Ct l yX5_bears cX5_bears 3 (some .boolean) 0 0 0 D T [.ref a0, .int (nI j), .int b] [(a0, .inr (5, [.int (nI an), .int am, .int al, .int ao, .int au, .ref a1, .ref a2, .ref a3, .ref a4, .ref a5, .ref a6, .ref a7, .ref a8, .ref a9, .ref a10])), (a3, .inl (T 0, 10, .inl af3)), (a5, .inl (T 0, 10, .inl af5))] (q_s_bears_f T a0 j b an am al ao au a1 a2 a3 a4 a5 a6 a7 a8 a9 a10 af3 af5) := by
  refine Ct.of (cc := cX5_bears) (maxL := 3) (ret := (some .boolean)) (by decide) (Nat.le_of_ble_eq_true rfl) ?_
  intro p e s m args below meth c A ls hC hnm V hl
  obtain ⟨hx, hb, hr, hml, hown, hts, hlocks⟩ := id hC
  generalize hH : s.heap = H at V ⊢
  clear hH
  have hl : lv_has ls 3 [(0, .ref a0), (1, .int (nI j)), (2, .int b)] := hl
  generalize hlo : ([] : List Loc) = locs at V ⊢
  clear hlo
  refine lv_aload_n hx hb dX5_bears_0 rfl (lv_at hl 0 rfl) ?_
  refine g_get hC V (ci := 5) uwX5 0 rfl rfl 7 (by decide) w_62 rfl rfl dX5_bears_1 ?_
  refine lv_iload_n hx hb dX5_bears_4 rfl (lv_at hl 1 rfl) ?_
  refine g_iald hC V 1 rfl (vp_in_nI (by omega) (by omega)) (v := (af3 j)) (congrArg _ (nI_clamp (by omega))) dX5_bears_5 ?_
  refine lv_iload_n hx hb dX5_bears_6 rfl (lv_at hl 2 rfl) ?_
  refine lv_iadd hx hb dX5_bears_7 ?_
  refine lv_aload_n hx hb dX5_bears_8 rfl (lv_at hl 0 rfl) ?_
  refine g_get hC V (ci := 5) uwX5 0 rfl rfl 9 (by decide) w_70 rfl rfl dX5_bears_9 ?_
  refine lv_iload_n hx hb dX5_bears_12 rfl (lv_at hl 1 rfl) ?_
  refine g_iald hC V 2 rfl (vp_in_nI (by omega) (by omega)) (v := (af5 j)) (congrArg _ (nI_clamp (by omega))) dX5_bears_13 ?_
  refine lv_icmp_gt (tgt := 21) hx hb dX5_bears_14 (by decide) (fun c_1 => ?_) (fun c_1 => ?_)
  · skip
    refine lv_iconst (v := (nI 0)) hx hb dX5_bears_21 (by decide +kernel) ?_
    exact g_zret (Qr := (q_s_bears_f T a0 j b an am al ao au a1 a2 a3 a4 a5 a6 a7 a8 a9 a10 af3 af5)) hC V ⟨(Nat.le_of_ble_eq_true rfl), (Nat.le_of_ble_eq_true rfl)⟩ (by first | decide +kernel | exact rfl) (.inr ⟨rfl, rfl, (by assumption)⟩) dX5_bears_22
  · skip
    refine lv_iconst (v := (nI 1)) hx hb dX5_bears_17 (by decide +kernel) ?_
    refine lv_goto (tgt := 22) hx hb dX5_bears_18 (by decide) ?_
    exact g_zret (Qr := (q_s_bears_f T a0 j b an am al ao au a1 a2 a3 a4 a5 a6 a7 a8 a9 a10 af3 af5)) hC V ⟨(Nat.le_of_ble_eq_true rfl), (Nat.le_of_ble_eq_true rfl)⟩ (by first | decide +kernel | exact rfl) (.inl ⟨rfl, rfl, (by assumption)⟩) dX5_bears_22

def q_s_byCustom_f (T : Nat → ClassId) (fa : Nat → Int32) (lz : Int32) (a0 : Nat) (idl : Int32) (an : Nat) (am : Int32) (al : Int32) (ao : Int32) (au : Int32) (a1 : Nat) (a2 : Nat) (a3 : Nat) (a4 : Nat) (a5 : Nat) (a6 : Nat) (a7 : Nat) (a8 : Nat) (a9 : Nat) (a10 : Nat) (af1 : Nat → Int32) (af2 : Nat → Int32) (af3 : Nat → Int32) (af4 : Nat → Int32) (af5 : Nat → Int32) (af6 : Nat → Int32) (af7 : Nat → Int32) (af8 : Nat → Int32) (af9 : Nat → Int32) (af10 : Nat → Int32) : Option Value → va_W → Prop := fun rr ww => (∃ (z : Int32) (u : Int32) (g3 : Nat → Int32) (g7 : Nat → Int32) (g8 : Nat → Int32) (g10 : Nat → Int32), rr = some (.int z) ∧ ww = [(a0, .inr (5, [.int (nI an), .int (am + (nI 1)), .int al, .int ao, .int u, .ref a1, .ref a2, .ref a3, .ref a4, .ref a5, .ref a6, .ref a7, .ref a8, .ref a9, .ref a10])), (a1, .inl (T 0, 10, .inl af1)), (a2, .inl (T 0, 10, .inl af2)), (a3, .inl (T 0, 10, .inl g3)), (a4, .inl (T 0, 10, .inl af4)), (a5, .inl (T 0, 10, .inl af5)), (a6, .inl (T 0, 10, .inl af6)), (a7, .inl (T 0, 10, .inl g7)), (a8, .inl (T 0, 10, .inl g8)), (a9, .inl (T 0, 10, .inl af9)), (a10, .inl (T 0, 10, .inl g10))] ∧ z = goC fa (cuSk fa lz an) an ∧ (∀ i, i < an → g3 i = hNw an fa (cuPl fa lz an) (-1) (nI 0) i) ∧ (∀ i, i < an → g7 i = st2 an fa (cuPl fa lz an) (cuSk fa lz an) (-1) (nI 0) i) ∧ u = au + goB an fa (cuPl fa lz an) (cuSk fa lz an) (-1) (nI 0) an)
set_option maxHeartbeats 4000000 in
set_option maxRecDepth 100000 in
theorem s_byCustom_f (l : Launch) (D : va_G) (T : Nat → ClassId) (fa : Nat → Int32) (lz : Int32) (a0 : Nat) (idl : Int32) (an : Nat) (am : Int32) (al : Int32) (ao : Int32) (au : Int32) (a1 : Nat) (a2 : Nat) (a3 : Nat) (a4 : Nat) (a5 : Nat) (a6 : Nat) (a7 : Nat) (a8 : Nat) (a9 : Nat) (a10 : Nat) (af1 : Nat → Int32) (af2 : Nat → Int32) (af3 : Nat → Int32) (af4 : Nat → Int32) (af5 : Nat → Int32) (af6 : Nat → Int32) (af7 : Nat → Int32) (af8 : Nat → Int32) (af9 : Nat → Int32) (af10 : Nat → Int32) (h_n : an ≤ 10) (h_t : ∀ i, i < an → bd (af9 i) an) (h_s1 : ∀ i, i < an → af1 i = fa (4 + i)) (h_s2 : ∀ i, i < an → af2 i = fa (14 + i)) (h_s3 : ∀ i, i < an → af3 i = fa (24 + i)) (h_s4 : ∀ i, i < an → af4 i = fa (34 + i)) (h_s5 : ∀ i, i < an → af5 i = fa (44 + i)) (h_s6 : ∀ i, i < an → af6 i = fa (54 + i)) (h_s7 : ∀ i, i < an → af7 i = fa (64 + i)) (h_s9 : ∀ i, i < an → af9 i = fa (84 + i)) (h_o : ao = fa 2) (h_a : MI an fa) (h_il : ∀ i, i < an → (bitP idl i ↔ nI i = lz)) : Ct l yX5_passByCustom cX5_passByCustom 7 (some .int) 3 0 0 D T [.ref a0, .int idl, .int (-1), .int (nI 0)] [(a0, .inr (5, [.int (nI an), .int am, .int al, .int ao, .int au, .ref a1, .ref a2, .ref a3, .ref a4, .ref a5, .ref a6, .ref a7, .ref a8, .ref a9, .ref a10])), (a1, .inl (T 0, 10, .inl af1)), (a2, .inl (T 0, 10, .inl af2)), (a3, .inl (T 0, 10, .inl af3)), (a4, .inl (T 0, 10, .inl af4)), (a5, .inl (T 0, 10, .inl af5)), (a6, .inl (T 0, 10, .inl af6)), (a7, .inl (T 0, 10, .inl af7)), (a8, .inl (T 0, 10, .inl af8)), (a9, .inl (T 0, 10, .inl af9)), (a10, .inl (T 0, 10, .inl af10))] (q_s_byCustom_f T fa lz a0 idl an am al ao au a1 a2 a3 a4 a5 a6 a7 a8 a9 a10 af1 af2 af3 af4 af5 af6 af7 af8 af9 af10) := by
  refine Ct.of (cc := cX5_passByCustom) (maxL := 7) (ret := (some .int)) (by decide) (Nat.le_of_ble_eq_true rfl) ?_
  intro p e s m args below meth c A ls hC hnm V hl
  obtain ⟨hx, hb, hr, hml, hown, hts, hlocks⟩ := id hC
  generalize hH : s.heap = H at V ⊢
  clear hH
  have hl : lv_has ls 7 [(0, .ref a0), (1, .int idl), (2, .int (-1)), (3, .int (nI 0))] := hl
  generalize hlo : ([] : List Loc) = locs at V ⊢
  clear hlo
  refine lv_iconst (v := (nI 0)) hx hb dX5_passByCustom_0 (by decide +kernel) ?_
  refine lv_istore (lv' := [(4, .int (nI 0)), (0, .ref a0), (1, .int idl), (2, .int (-1)), (3, .int (nI 0))]) hx hb dX5_passByCustom_1 hl (by decide) rfl (fun ls hl => ?_)
  refine lv_iconst (v := (nI 0)) hx hb dX5_passByCustom_3 (by decide +kernel) ?_
  refine lv_istore (lv' := [(5, .int (nI 0)), (4, .int (nI 0)), (0, .ref a0), (1, .int idl), (2, .int (-1)), (3, .int (nI 0))]) hx hb dX5_passByCustom_4 hl (by decide) rfl (fun ls hl => ?_)
  refine lv_iconst (v := (nI 0)) hx hb dX5_passByCustom_6 (by decide +kernel) ?_
  refine lv_istore (lv' := [(6, .int (nI 0)), (5, .int (nI 0)), (4, .int (nI 0)), (0, .ref a0), (1, .int idl), (2, .int (-1)), (3, .int (nI 0))]) hx hb dX5_passByCustom_7 hl (by decide) rfl (fun ls hl => ?_)
  have L_1 : ∀ (fu : Nat) (k9 : Nat) (sv : Int32) (pv : Int32), k9 ≤ an → sv = cuSk fa lz k9 → pv = cuPl fa lz k9 → an - k9 < fu → ∀ (H : Heap) (locs : List Loc) (ls : Array Slot), gW D T A s [(a0, .inr (5, [.int (nI an), .int am, .int al, .int ao, .int au, .ref a1, .ref a2, .ref a3, .ref a4, .ref a5, .ref a6, .ref a7, .ref a8, .ref a9, .ref a10])), (a1, .inl (T 0, 10, .inl af1)), (a2, .inl (T 0, 10, .inl af2)), (a3, .inl (T 0, 10, .inl af3)), (a4, .inl (T 0, 10, .inl af4)), (a5, .inl (T 0, 10, .inl af5)), (a6, .inl (T 0, 10, .inl af6)), (a7, .inl (T 0, 10, .inl af7)), (a8, .inl (T 0, 10, .inl af8)), (a9, .inl (T 0, 10, .inl af9)), (a10, .inl (T 0, 10, .inl af10))] H locs → lv_has ls 7 [(6, .int (nI k9)), (5, .int pv), (4, .int sv), (0, .ref a0), (1, .int idl), (2, .int (-1)), (3, .int (nI 0))] → W p l e (rmD 3 0 0) s m args below meth c H locs 0 0 (MQ below (gQ D A (q_s_byCustom_f T fa lz a0 idl an am al ao au a1 a2 a3 a4 a5 a6 a7 a8 a9 a10 af1 af2 af3 af4 af5 af6 af7 af8 af9 af10)) args s 0 0 A) (F0 m 9 ls []) := by
    intro fu_9
    induction fu_9 with
    | zero => intro k9 sv pv hk9 hsv hpv hmu; exact absurd hmu (Nat.not_lt_zero _)
    | succ fu_9 ih_9 =>
      intro k9 sv pv hk9 hsv hpv hmu_9 H locs ls V hl
      refine lv_iload hx hb dX5_passByCustom_9 (lv_at hl 0 rfl) ?_
      refine lv_aload_n hx hb dX5_passByCustom_11 rfl (lv_at hl 3 rfl) ?_
      refine g_get hC V (ci := 5) uwX5 0 rfl rfl 0 (by decide) w_33 rfl rfl dX5_passByCustom_12 ?_
      refine lv_icmp_ge (tgt := 87) hx hb dX5_passByCustom_15 (by decide) (fun c_2 => ?_) (fun c_2 => ?_)
      · skip
        have c_2 := b_le (by omega) (by omega) c_2
        have hsn : sv = cuSk fa lz an := by rw [hsv]; congr 1; omega
        have hpn : pv = cuPl fa lz an := by rw [hpv]; congr 1; omega
        refine lv_aload_n hx hb dX5_passByCustom_87 rfl (lv_at hl 3 rfl) ?_
        refine lv_iload_n hx hb dX5_passByCustom_88 rfl (lv_at hl 5 rfl) ?_
        refine g_callVU (nA := 1) hC V hl.1 (s_isSmith l D T a0 (-1) an am al ao au a1 a2 a3 a4 a5 a6 a7 a8 a9 a10 (by first | assumption | omega)) w_486 w_426 w_427 w_3 w_428 (by decide +kernel) rfl ⟨(Nat.le_of_ble_eq_true rfl), (Nat.le_of_ble_eq_true rfl)⟩ 0 (ci := 5) rfl rfl [0] rfl rfl (Nat.le_of_ble_eq_true rfl) dX5_passByCustom_89 ⟨(Nat.le_of_ble_eq_true rfl), (Nat.le_of_ble_eq_true rfl)⟩ rfl (fun r w1 H locs hQ V => ?_)
        rcases hQ with ⟨j_3, rfl, rfl, f_4, f_5⟩ | ⟨rfl, rfl, f_6⟩
        · have V : gW D T A s [(a0, .inr (5, [.int (nI an), .int am, .int al, .int ao, .int au, .ref a1, .ref a2, .ref a3, .ref a4, .ref a5, .ref a6, .ref a7, .ref a8, .ref a9, .ref a10])), (a1, .inl (T 0, 10, .inl af1)), (a2, .inl (T 0, 10, .inl af2)), (a3, .inl (T 0, 10, .inl af3)), (a4, .inl (T 0, 10, .inl af4)), (a5, .inl (T 0, 10, .inl af5)), (a6, .inl (T 0, 10, .inl af6)), (a7, .inl (T 0, 10, .inl af7)), (a8, .inl (T 0, 10, .inl af8)), (a9, .inl (T 0, 10, .inl af9)), (a10, .inl (T 0, 10, .inl af10))] H locs := V _ [0] rfl rfl rfl (by decide +kernel) rfl
          show W p l e _ s m args below meth c H locs _ _ _ (F0 m 92 ls [.int (nI 1)])
          exact ((m1_ne _ (by omega) f_4.symm) : False).elim
        · have V : gW D T A s [(a0, .inr (5, [.int (nI an), .int am, .int al, .int ao, .int au, .ref a1, .ref a2, .ref a3, .ref a4, .ref a5, .ref a6, .ref a7, .ref a8, .ref a9, .ref a10])), (a1, .inl (T 0, 10, .inl af1)), (a2, .inl (T 0, 10, .inl af2)), (a3, .inl (T 0, 10, .inl af3)), (a4, .inl (T 0, 10, .inl af4)), (a5, .inl (T 0, 10, .inl af5)), (a6, .inl (T 0, 10, .inl af6)), (a7, .inl (T 0, 10, .inl af7)), (a8, .inl (T 0, 10, .inl af8)), (a9, .inl (T 0, 10, .inl af9)), (a10, .inl (T 0, 10, .inl af10))] H locs := V _ [0] rfl rfl rfl (by decide +kernel) rfl
          show W p l e _ s m args below meth c H locs _ _ _ (F0 m 92 ls [.int (nI 0)])
          refine lv_if_eq (tgt := 108) hx hb dX5_passByCustom_92 (by decide) (fun _ => ?_) (fun c => absurd (show (nI 0) = 0 by decide +kernel) c)
          refine lv_iconst (v := (nI 0)) hx hb dX5_passByCustom_108 (by decide +kernel) ?_
          refine lv_istore (lv' := [(6, .int (nI 0)), (5, .int pv), (4, .int sv), (0, .ref a0), (1, .int idl), (2, .int (-1)), (3, .int (nI 0))]) hx hb dX5_passByCustom_109 hl (by decide) rfl (fun ls hl => ?_)
          refine lv_aload_n hx hb dX5_passByCustom_111 rfl (lv_at hl 3 rfl) ?_
          refine lv_iload hx hb dX5_passByCustom_112 (lv_at hl 1 rfl) ?_
          refine lv_iload hx hb dX5_passByCustom_114 (lv_at hl 2 rfl) ?_
          refine lv_iload hx hb dX5_passByCustom_116 (lv_at hl 0 rfl) ?_
          refine lv_if_eq (tgt := 125) hx hb dX5_passByCustom_118 (by decide) (fun _ => ?_) (fun c => absurd (show (nI 0) = 0 by decide +kernel) c)
          refine lv_iconst (v := (-1)) hx hb dX5_passByCustom_125 (by decide +kernel) ?_
          refine lv_iload_n hx hb dX5_passByCustom_126 rfl (lv_at hl 6 rfl) ?_
          refine g_callV (wr := []) (nA := 4) hC V hl.1 (s_pass_f l D T fa a0 pv sv (-1) (nI 0) an am al ao au a1 a2 a3 a4 a5 a6 a7 a8 a9 a10 af1 af2 af3 af4 af5 af6 af7 af8 af9 af10 h_n h_t h_s1 h_s2 h_s3 h_s4 h_s5 h_s6 h_s7 h_s9 h_o h_a) w_552 w_467 w_468 w_3 w_469 (by decide +kernel) rfl ⟨(Nat.le_of_ble_eq_true rfl), (Nat.le_of_ble_eq_true rfl)⟩ 0 (ci := 5) rfl rfl [0, 1, 2, 3, 4, 5, 6, 7, 8, 9, 10] [] rfl rfl rfl rfl (by decide) (Nat.le_of_ble_eq_true rfl) dX5_passByCustom_127 ⟨(Nat.le_of_ble_eq_true rfl), (Nat.le_of_ble_eq_true rfl)⟩ rfl (fun r w1 H locs hQ V => ?_)
          obtain ⟨z_7, u_8, g3_9, g7_10, g8_11, g10_12, rfl, rfl, f_13, f_14, f_15, f_16⟩ := hQ
          have V : gW D T A s [(a0, .inr (5, [.int (nI an), .int (am + (nI 1)), .int al, .int ao, .int u_8, .ref a1, .ref a2, .ref a3, .ref a4, .ref a5, .ref a6, .ref a7, .ref a8, .ref a9, .ref a10])), (a1, .inl (T 0, 10, .inl af1)), (a2, .inl (T 0, 10, .inl af2)), (a3, .inl (T 0, 10, .inl g3_9)), (a4, .inl (T 0, 10, .inl af4)), (a5, .inl (T 0, 10, .inl af5)), (a6, .inl (T 0, 10, .inl af6)), (a7, .inl (T 0, 10, .inl g7_10)), (a8, .inl (T 0, 10, .inl g8_11)), (a9, .inl (T 0, 10, .inl af9)), (a10, .inl (T 0, 10, .inl g10_12))] H locs := V
          show W p l e _ s m args below meth c H locs _ _ _ (F0 m 130 ls [.int z_7])
          exact g_iret (Qr := (q_s_byCustom_f T fa lz a0 idl an am al ao au a1 a2 a3 a4 a5 a6 a7 a8 a9 a10 af1 af2 af3 af4 af5 af6 af7 af8 af9 af10)) hC V ⟨(Nat.le_of_ble_eq_true rfl), (Nat.le_of_ble_eq_true rfl)⟩ ⟨z_7, u_8, g3_9, g7_10, g8_11, g10_12, rfl, rfl, (by rw [← hsn]; exact f_13), (by rw [← hpn]; exact f_14), (by rw [← hpn, ← hsn]; exact f_15), (by rw [← hpn, ← hsn]; exact f_16)⟩ dX5_passByCustom_130
      · skip
        have c_2 := b_nle (by omega) (by omega) c_2
        refine lv_iload_n hx hb dX5_passByCustom_18 rfl (lv_at hl 4 rfl) ?_
        refine lv_iload hx hb dX5_passByCustom_19 (lv_at hl 0 rfl) ?_
        refine g_callSNU (nA := 2) (host := RX7) hC V hl.1 (c_isIn_f l D T idl k9) w_472 (List.mem_of_getElem? (i := 13) rfl) w_2 w_471 (by decide +kernel) rfl ⟨(Nat.le_of_ble_eq_true rfl), (Nat.le_of_ble_eq_true rfl)⟩ [] rfl rfl (Nat.le_of_ble_eq_true rfl) dX5_passByCustom_21 ⟨(Nat.le_of_ble_eq_true rfl), (Nat.le_of_ble_eq_true rfl)⟩ rfl (fun r w1 H locs hQ V => ?_)
        rcases hQ with ⟨rfl, rfl, f_17⟩ | ⟨rfl, rfl, f_18⟩
        · have V : gW D T A s [(a0, .inr (5, [.int (nI an), .int am, .int al, .int ao, .int au, .ref a1, .ref a2, .ref a3, .ref a4, .ref a5, .ref a6, .ref a7, .ref a8, .ref a9, .ref a10])), (a1, .inl (T 0, 10, .inl af1)), (a2, .inl (T 0, 10, .inl af2)), (a3, .inl (T 0, 10, .inl af3)), (a4, .inl (T 0, 10, .inl af4)), (a5, .inl (T 0, 10, .inl af5)), (a6, .inl (T 0, 10, .inl af6)), (a7, .inl (T 0, 10, .inl af7)), (a8, .inl (T 0, 10, .inl af8)), (a9, .inl (T 0, 10, .inl af9)), (a10, .inl (T 0, 10, .inl af10))] H locs := V _ [] rfl rfl rfl (by decide +kernel) rfl
          show W p l e _ s m args below meth c H locs _ _ _ (F0 m 24 ls [.int (nI 1)])
          refine lv_if_eq (tgt := 30) hx hb dX5_passByCustom_24 (by decide) (fun c => absurd (show (nI 1) = 0 from c) (by decide +kernel)) (fun _ => ?_)
          refine lv_goto (tgt := 81) hx hb dX5_passByCustom_27 (by decide) ?_
          refine lv_iinc (v := (nI (k9 + 1))) (lv' := [(6, .int (nI (k9 + 1))), (5, .int pv), (4, .int sv), (0, .ref a0), (1, .int idl), (2, .int (-1)), (3, .int (nI 0))]) hx hb dX5_passByCustom_81 hl (k := 0) rfl (nI_1 _) (by decide) rfl (fun ls hl => ?_)
          refine lv_goto (tgt := 9) hx hb dX5_passByCustom_84 (by decide) ?_
          exact ih_9 (k9 + 1) sv pv (by omega) (by rw [hsv]; exact (cS_lz ((h_il _ (by omega)).mp f_17)).1) (by rw [hpv]; exact (cS_lz ((h_il _ (by omega)).mp f_17)).2) (by omega) _ _ _ V (lv_sub hl [0, 1, 2, 3, 4, 5, 6] rfl)
        · have V : gW D T A s [(a0, .inr (5, [.int (nI an), .int am, .int al, .int ao, .int au, .ref a1, .ref a2, .ref a3, .ref a4, .ref a5, .ref a6, .ref a7, .ref a8, .ref a9, .ref a10])), (a1, .inl (T 0, 10, .inl af1)), (a2, .inl (T 0, 10, .inl af2)), (a3, .inl (T 0, 10, .inl af3)), (a4, .inl (T 0, 10, .inl af4)), (a5, .inl (T 0, 10, .inl af5)), (a6, .inl (T 0, 10, .inl af6)), (a7, .inl (T 0, 10, .inl af7)), (a8, .inl (T 0, 10, .inl af8)), (a9, .inl (T 0, 10, .inl af9)), (a10, .inl (T 0, 10, .inl af10))] H locs := V _ [] rfl rfl rfl (by decide +kernel) rfl
          show W p l e _ s m args below meth c H locs _ _ _ (F0 m 24 ls [.int (nI 0)])
          have hlz : ¬ nI k9 = lz := fun q => f_18 ((h_il _ (by omega)).mpr q)
          refine lv_if_eq (tgt := 30) hx hb dX5_passByCustom_24 (by decide) (fun _ => ?_) (fun c => absurd (show (nI 0) = 0 by decide +kernel) c)
          refine lv_aload_n hx hb dX5_passByCustom_30 rfl (lv_at hl 3 rfl) ?_
          refine lv_iload hx hb dX5_passByCustom_31 (lv_at hl 0 rfl) ?_
          refine g_callVU (nA := 1) hC V hl.1 (s_canStrike l D T a0 k9 an am al ao au a1 a2 a3 a4 a5 a6 a7 a8 a9 a10 af3 af4 af5 af6 af7 (by first | assumption | omega)) w_473 w_474 w_475 w_3 w_476 (by decide +kernel) rfl ⟨(Nat.le_of_ble_eq_true rfl), (Nat.le_of_ble_eq_true rfl)⟩ 0 (ci := 5) rfl rfl [0, 3, 4, 5, 6, 7] rfl rfl (Nat.le_of_ble_eq_true rfl) dX5_passByCustom_33 ⟨(Nat.le_of_ble_eq_true rfl), (Nat.le_of_ble_eq_true rfl)⟩ rfl (fun r w1 H locs hQ V => ?_)
          rcases hQ with ⟨rfl, rfl, f_19, f_20, f_21⟩ | ⟨rfl, rfl, f_22⟩
          · have V : gW D T A s [(a0, .inr (5, [.int (nI an), .int am, .int al, .int ao, .int au, .ref a1, .ref a2, .ref a3, .ref a4, .ref a5, .ref a6, .ref a7, .ref a8, .ref a9, .ref a10])), (a1, .inl (T 0, 10, .inl af1)), (a2, .inl (T 0, 10, .inl af2)), (a3, .inl (T 0, 10, .inl af3)), (a4, .inl (T 0, 10, .inl af4)), (a5, .inl (T 0, 10, .inl af5)), (a6, .inl (T 0, 10, .inl af6)), (a7, .inl (T 0, 10, .inl af7)), (a8, .inl (T 0, 10, .inl af8)), (a9, .inl (T 0, 10, .inl af9)), (a10, .inl (T 0, 10, .inl af10))] H locs := V _ [0, 2, 0, 0, 0, 0] rfl rfl rfl (by decide +kernel) rfl
            show W p l e _ s m args below meth c H locs _ _ _ (F0 m 36 ls [.int (nI 1)])
            refine lv_if_eq (tgt := 51) hx hb dX5_passByCustom_36 (by decide) (fun c => absurd (show (nI 1) = 0 from c) (by decide +kernel)) (fun _ => ?_)
            refine lv_iload hx hb dX5_passByCustom_39 (lv_at hl 2 rfl) ?_
            refine lv_iconst (v := (nI 1)) hx hb dX5_passByCustom_41 (by decide +kernel) ?_
            refine lv_iload hx hb dX5_passByCustom_42 (lv_at hl 0 rfl) ?_
            refine lv_ishl hx hb dX5_passByCustom_44 ?_
            refine lv_ior hx hb dX5_passByCustom_45 ?_
            refine lv_istore (lv' := [(4, .int (sv ||| ((nI 1) <<< ((nI k9) &&& 31)))), (6, .int (nI k9)), (5, .int pv), (0, .ref a0), (1, .int idl), (2, .int (-1)), (3, .int (nI 0))]) hx hb dX5_passByCustom_46 hl (by decide) rfl (fun ls hl => ?_)
            refine lv_goto (tgt := 81) hx hb dX5_passByCustom_48 (by decide) ?_
            refine lv_iinc (v := (nI (k9 + 1))) (lv' := [(6, .int (nI (k9 + 1))), (4, .int (sv ||| ((nI 1) <<< ((nI k9) &&& 31)))), (5, .int pv), (0, .ref a0), (1, .int idl), (2, .int (-1)), (3, .int (nI 0))]) hx hb dX5_passByCustom_81 hl (k := 1) rfl (nI_1 _) (by decide) rfl (fun ls hl => ?_)
            refine lv_goto (tgt := 9) hx hb dX5_passByCustom_84 (by decide) ?_
            exact ih_9 (k9 + 1) (sv ||| ((nI 1) <<< ((nI k9) &&& 31))) pv (by omega) (by rw [hsv]; exact (cS_y hlz (ctr_y (h_s7 _ (by omega)) (h_s6 _ (by omega)) (h_s3 _ (by omega)) (h_s4 _ (by omega)) (h_s5 _ (by omega)) f_19 f_20 f_21)).1) (by rw [hpv]; exact (cS_y hlz (ctr_y (h_s7 _ (by omega)) (h_s6 _ (by omega)) (h_s3 _ (by omega)) (h_s4 _ (by omega)) (h_s5 _ (by omega)) f_19 f_20 f_21)).2) (by omega) _ _ _ V (lv_sub hl [0, 2, 1, 3, 4, 5, 6] rfl)
          · have V : gW D T A s [(a0, .inr (5, [.int (nI an), .int am, .int al, .int ao, .int au, .ref a1, .ref a2, .ref a3, .ref a4, .ref a5, .ref a6, .ref a7, .ref a8, .ref a9, .ref a10])), (a1, .inl (T 0, 10, .inl af1)), (a2, .inl (T 0, 10, .inl af2)), (a3, .inl (T 0, 10, .inl af3)), (a4, .inl (T 0, 10, .inl af4)), (a5, .inl (T 0, 10, .inl af5)), (a6, .inl (T 0, 10, .inl af6)), (a7, .inl (T 0, 10, .inl af7)), (a8, .inl (T 0, 10, .inl af8)), (a9, .inl (T 0, 10, .inl af9)), (a10, .inl (T 0, 10, .inl af10))] H locs := V _ [0, 2, 0, 0, 0, 0] rfl rfl rfl (by decide +kernel) rfl
            show W p l e _ s m args below meth c H locs _ _ _ (F0 m 36 ls [.int (nI 0)])
            have hnc : ¬ cuStr fa k9 := ctr_n (h_s7 _ (by omega)) (h_s6 _ (by omega)) (h_s3 _ (by omega)) (h_s4 _ (by omega)) (h_s5 _ (by omega)) f_22
            refine lv_if_eq (tgt := 51) hx hb dX5_passByCustom_36 (by decide) (fun _ => ?_) (fun c => absurd (show (nI 0) = 0 by decide +kernel) c)
            refine lv_aload_n hx hb dX5_passByCustom_51 rfl (lv_at hl 3 rfl) ?_
            refine lv_aload_n hx hb dX5_passByCustom_52 rfl (lv_at hl 3 rfl) ?_
            refine g_get hC V (ci := 5) uwX5 0 rfl rfl 13 (by decide) w_82 rfl rfl dX5_passByCustom_53 ?_
            refine lv_iload hx hb dX5_passByCustom_56 (lv_at hl 0 rfl) ?_
            obtain ⟨j_23, hj_23, ej_23⟩ := bd_ex (h_t k9 (by omega))
            refine g_iald hC V 9 rfl (vp_in_nI (by omega) (by omega)) (v := (nI j_23)) (by rw [nI_clamp (by omega)]; exact ej_23) dX5_passByCustom_58 ?_
            refine lv_aload_n hx hb dX5_passByCustom_59 rfl (lv_at hl 3 rfl) ?_
            refine g_get hC V (ci := 5) uwX5 0 rfl rfl 5 (by decide) w_51 rfl rfl dX5_passByCustom_60 ?_
            refine lv_iload hx hb dX5_passByCustom_63 (lv_at hl 0 rfl) ?_
            refine g_iald hC V 1 rfl (vp_in_nI (by omega) (by omega)) (v := (af1 k9)) (congrArg _ (nI_clamp (by omega))) dX5_passByCustom_65 ?_
            refine g_callVU (nA := 2) hC V hl.1 (s_bears_f l D T a0 j_23 (af1 k9) an am al ao au a1 a2 a3 a4 a5 a6 a7 a8 a9 a10 af3 af5 (by first | assumption | omega)) w_548 w_550 w_s14 w_3 w_551 (by decide +kernel) rfl ⟨(Nat.le_of_ble_eq_true rfl), (Nat.le_of_ble_eq_true rfl)⟩ 0 (ci := 5) rfl rfl [0, 3, 5] rfl rfl (Nat.le_of_ble_eq_true rfl) dX5_passByCustom_66 ⟨(Nat.le_of_ble_eq_true rfl), (Nat.le_of_ble_eq_true rfl)⟩ rfl (fun r w1 H locs hQ V => ?_)
            rcases hQ with ⟨rfl, rfl, f_24⟩ | ⟨rfl, rfl, f_25⟩
            · have V : gW D T A s [(a0, .inr (5, [.int (nI an), .int am, .int al, .int ao, .int au, .ref a1, .ref a2, .ref a3, .ref a4, .ref a5, .ref a6, .ref a7, .ref a8, .ref a9, .ref a10])), (a1, .inl (T 0, 10, .inl af1)), (a2, .inl (T 0, 10, .inl af2)), (a3, .inl (T 0, 10, .inl af3)), (a4, .inl (T 0, 10, .inl af4)), (a5, .inl (T 0, 10, .inl af5)), (a6, .inl (T 0, 10, .inl af6)), (a7, .inl (T 0, 10, .inl af7)), (a8, .inl (T 0, 10, .inl af8)), (a9, .inl (T 0, 10, .inl af9)), (a10, .inl (T 0, 10, .inl af10))] H locs := V _ [0, 2, 1] rfl rfl rfl (by decide +kernel) rfl
              show W p l e _ s m args below meth c H locs _ _ _ (F0 m 69 ls [.int (nI 1)])
              refine lv_if_eq (tgt := 81) hx hb dX5_passByCustom_69 (by decide) (fun c => absurd (show (nI 1) = 0 from c) (by decide +kernel)) (fun _ => ?_)
              refine lv_iload hx hb dX5_passByCustom_72 (lv_at hl 1 rfl) ?_
              refine lv_iconst (v := (nI 1)) hx hb dX5_passByCustom_74 (by decide +kernel) ?_
              refine lv_iload hx hb dX5_passByCustom_75 (lv_at hl 0 rfl) ?_
              refine lv_ishl hx hb dX5_passByCustom_77 ?_
              refine lv_ior hx hb dX5_passByCustom_78 ?_
              refine lv_istore (lv' := [(5, .int (pv ||| ((nI 1) <<< ((nI k9) &&& 31)))), (6, .int (nI k9)), (4, .int sv), (0, .ref a0), (1, .int idl), (2, .int (-1)), (3, .int (nI 0))]) hx hb dX5_passByCustom_79 hl (by decide) rfl (fun ls hl => ?_)
              refine lv_iinc (v := (nI (k9 + 1))) (lv' := [(6, .int (nI (k9 + 1))), (5, .int (pv ||| ((nI 1) <<< ((nI k9) &&& 31)))), (4, .int sv), (0, .ref a0), (1, .int idl), (2, .int (-1)), (3, .int (nI 0))]) hx hb dX5_passByCustom_81 hl (k := 1) rfl (nI_1 _) (by decide) rfl (fun ls hl => ?_)
              refine lv_goto (tgt := 9) hx hb dX5_passByCustom_84 (by decide) ?_
              exact ih_9 (k9 + 1) sv (pv ||| ((nI 1) <<< ((nI k9) &&& 31))) (by omega) (by rw [hsv]; exact (cP_y hlz hnc ((bea (f := fa) ((h_s9 _ (by omega)).symm.trans ej_23) (by omega) (h_s5 _ (by omega)) (h_s3 _ (by omega)) (h_s1 _ (by omega))).mp f_24)).1) (by rw [hpv]; exact (cP_y hlz hnc ((bea (f := fa) ((h_s9 _ (by omega)).symm.trans ej_23) (by omega) (h_s5 _ (by omega)) (h_s3 _ (by omega)) (h_s1 _ (by omega))).mp f_24)).2) (by omega) _ _ _ V (lv_sub hl [0, 1, 2, 3, 4, 5, 6] rfl)
            · have V : gW D T A s [(a0, .inr (5, [.int (nI an), .int am, .int al, .int ao, .int au, .ref a1, .ref a2, .ref a3, .ref a4, .ref a5, .ref a6, .ref a7, .ref a8, .ref a9, .ref a10])), (a1, .inl (T 0, 10, .inl af1)), (a2, .inl (T 0, 10, .inl af2)), (a3, .inl (T 0, 10, .inl af3)), (a4, .inl (T 0, 10, .inl af4)), (a5, .inl (T 0, 10, .inl af5)), (a6, .inl (T 0, 10, .inl af6)), (a7, .inl (T 0, 10, .inl af7)), (a8, .inl (T 0, 10, .inl af8)), (a9, .inl (T 0, 10, .inl af9)), (a10, .inl (T 0, 10, .inl af10))] H locs := V _ [0, 2, 1] rfl rfl rfl (by decide +kernel) rfl
              show W p l e _ s m args below meth c H locs _ _ _ (F0 m 69 ls [.int (nI 0)])
              refine lv_if_eq (tgt := 81) hx hb dX5_passByCustom_69 (by decide) (fun _ => ?_) (fun c => absurd (show (nI 0) = 0 by decide +kernel) c)
              refine lv_iinc (v := (nI (k9 + 1))) (lv' := [(6, .int (nI (k9 + 1))), (5, .int pv), (4, .int sv), (0, .ref a0), (1, .int idl), (2, .int (-1)), (3, .int (nI 0))]) hx hb dX5_passByCustom_81 hl (k := 0) rfl (nI_1 _) (by decide) rfl (fun ls hl => ?_)
              refine lv_goto (tgt := 9) hx hb dX5_passByCustom_84 (by decide) ?_
              exact ih_9 (k9 + 1) sv pv (by omega) (by rw [hsv]; exact (cP_n hlz hnc (fun q => absurd f_25 ((bea (f := fa) ((h_s9 _ (by omega)).symm.trans ej_23) (by omega) (h_s5 _ (by omega)) (h_s3 _ (by omega)) (h_s1 _ (by omega))).mpr q))).1) (by rw [hpv]; exact (cP_n hlz hnc (fun q => absurd f_25 ((bea (f := fa) ((h_s9 _ (by omega)).symm.trans ej_23) (by omega) (h_s5 _ (by omega)) (h_s3 _ (by omega)) (h_s1 _ (by omega))).mpr q))).2) (by omega) _ _ _ V (lv_sub hl [0, 1, 2, 3, 4, 5, 6] rfl)
  exact L_1 _ 0 (nI 0) (nI 0) (by omega) rfl rfl (Nat.lt_succ_self _) _ _ _ V (lv_sub hl [0, 1, 2, 3, 4, 5, 6] rfl)

def q_s_allCustom_f (T : Nat → ClassId) (fa : Nat → Int32) (lz : Int32) (a0 : Nat) (cn : Nat) (idl : Int32) (an : Nat) (am : Int32) (al : Int32) (ao : Int32) (au : Int32) (a1 : Nat) (a2 : Nat) (a3 : Nat) (a4 : Nat) (a5 : Nat) (a6 : Nat) (a7 : Nat) (a8 : Nat) (a9 : Nat) (a10 : Nat) (af1 : Nat → Int32) (af2 : Nat → Int32) (af3 : Nat → Int32) (af4 : Nat → Int32) (af5 : Nat → Int32) (af6 : Nat → Int32) (af7 : Nat → Int32) (af8 : Nat → Int32) (af9 : Nat → Int32) (af10 : Nat → Int32) : Option Value → va_W → Prop := fun rr ww => (∃ (z : Int32) (u : Int32) (mm : Int32) (g3 : Nat → Int32) (g7 : Nat → Int32) (g8 : Nat → Int32) (g10 : Nat → Int32), rr = some (.int z) ∧ ww = [(a0, .inr (5, [.int (nI an), .int mm, .int al, .int ao, .int u, .ref a1, .ref a2, .ref a3, .ref a4, .ref a5, .ref a6, .ref a7, .ref a8, .ref a9, .ref a10])), (a1, .inl (T 0, 10, .inl af1)), (a2, .inl (T 0, 10, .inl af2)), (a3, .inl (T 0, 10, .inl g3)), (a4, .inl (T 0, 10, .inl af4)), (a5, .inl (T 0, 10, .inl af5)), (a6, .inl (T 0, 10, .inl af6)), (a7, .inl (T 0, 10, .inl g7)), (a8, .inl (T 0, 10, .inl g8)), (a9, .inl (T 0, 10, .inl af9)), (a10, .inl (T 0, 10, .inl g10))] ∧ z = cuC an fa lz cn ∧ (∀ i, i < an → g3 i = cuI an fa lz cn (24 + i)) ∧ (∀ i, i < an → g7 i = cuI an fa lz cn (64 + i)) ∧ mm = cuI an fa lz cn 1)
set_option maxHeartbeats 4000000 in
set_option maxRecDepth 100000 in
theorem s_allCustom_f (l : Launch) (D : va_G) (T : Nat → ClassId) (fa : Nat → Int32) (lz : Int32) (a0 : Nat) (cn : Nat) (idl : Int32) (an : Nat) (am : Int32) (al : Int32) (ao : Int32) (au : Int32) (a1 : Nat) (a2 : Nat) (a3 : Nat) (a4 : Nat) (a5 : Nat) (a6 : Nat) (a7 : Nat) (a8 : Nat) (a9 : Nat) (a10 : Nat) (af1 : Nat → Int32) (af2 : Nat → Int32) (af3 : Nat → Int32) (af4 : Nat → Int32) (af5 : Nat → Int32) (af6 : Nat → Int32) (af7 : Nat → Int32) (af8 : Nat → Int32) (af9 : Nat → Int32) (af10 : Nat → Int32) (h_n : an ≤ 10) (h_t : ∀ i, i < an → bd (af9 i) an) (h_s1 : ∀ i, i < an → af1 i = fa (4 + i)) (h_s2 : ∀ i, i < an → af2 i = fa (14 + i)) (h_s3 : ∀ i, i < an → af3 i = fa (24 + i)) (h_s4 : ∀ i, i < an → af4 i = fa (34 + i)) (h_s5 : ∀ i, i < an → af5 i = fa (44 + i)) (h_s6 : ∀ i, i < an → af6 i = fa (54 + i)) (h_s7 : ∀ i, i < an → af7 i = fa (64 + i)) (h_s9 : ∀ i, i < an → af9 i = fa (84 + i)) (h_o : ao = fa 2) (h_a : MI an fa) (h_il : ∀ i, i < an → (bitP idl i ↔ nI i = lz)) (h_m : am = fa 1) (h_c : cn ≤ 1000) : Ct l yX5_passAllByCustom cX5_passAllByCustom 7 (some .int) 4 0 0 D T [.ref a0, .int (nI cn), .int idl, .int (-1), .int (nI 0)] [(a0, .inr (5, [.int (nI an), .int am, .int al, .int ao, .int au, .ref a1, .ref a2, .ref a3, .ref a4, .ref a5, .ref a6, .ref a7, .ref a8, .ref a9, .ref a10])), (a1, .inl (T 0, 10, .inl af1)), (a2, .inl (T 0, 10, .inl af2)), (a3, .inl (T 0, 10, .inl af3)), (a4, .inl (T 0, 10, .inl af4)), (a5, .inl (T 0, 10, .inl af5)), (a6, .inl (T 0, 10, .inl af6)), (a7, .inl (T 0, 10, .inl af7)), (a8, .inl (T 0, 10, .inl af8)), (a9, .inl (T 0, 10, .inl af9)), (a10, .inl (T 0, 10, .inl af10))] (q_s_allCustom_f T fa lz a0 cn idl an am al ao au a1 a2 a3 a4 a5 a6 a7 a8 a9 a10 af1 af2 af3 af4 af5 af6 af7 af8 af9 af10) := by
  refine Ct.of (cc := cX5_passAllByCustom) (maxL := 7) (ret := (some .int)) (by decide) (Nat.le_of_ble_eq_true rfl) ?_
  intro p e s m args below meth c A ls hC hnm V hl
  obtain ⟨hx, hb, hr, hml, hown, hts, hlocks⟩ := id hC
  generalize hH : s.heap = H at V ⊢
  clear hH
  have hl : lv_has ls 7 [(0, .ref a0), (1, .int (nI cn)), (2, .int idl), (3, .int (-1)), (4, .int (nI 0))] := hl
  generalize hlo : ([] : List Loc) = locs at V ⊢
  clear hlo
  refine lv_iconst (v := (nI 0)) hx hb dX5_passAllByCustom_0 (by decide +kernel) ?_
  refine lv_istore (lv' := [(5, .int (nI 0)), (0, .ref a0), (1, .int (nI cn)), (2, .int idl), (3, .int (-1)), (4, .int (nI 0))]) hx hb dX5_passAllByCustom_1 hl (by decide) rfl (fun ls hl => ?_)
  refine lv_iconst (v := (nI 0)) hx hb dX5_passAllByCustom_3 (by decide +kernel) ?_
  refine lv_istore (lv' := [(6, .int (nI 0)), (5, .int (nI 0)), (0, .ref a0), (1, .int (nI cn)), (2, .int idl), (3, .int (-1)), (4, .int (nI 0))]) hx hb dX5_passAllByCustom_4 hl (by decide) rfl (fun ls hl => ?_)
  have L_1 : ∀ (fu : Nat) (k6 : Nat) (x5 : Int32) (mv : Int32) (uv : Int32) (gb : Nat → Int32) (gc : Nat → Int32) (gd : Nat → Int32) (ge : Nat → Int32), k6 ≤ cn → x5 = cuC an fa lz k6 → (∀ i, i < an → gb i = cuI an fa lz k6 (24 + i)) → (∀ i, i < an → gc i = cuI an fa lz k6 (64 + i)) → mv = cuI an fa lz k6 1 → cn - k6 < fu → ∀ (H : Heap) (locs : List Loc) (ls : Array Slot), gW D T A s [(a0, .inr (5, [.int (nI an), .int mv, .int al, .int ao, .int uv, .ref a1, .ref a2, .ref a3, .ref a4, .ref a5, .ref a6, .ref a7, .ref a8, .ref a9, .ref a10])), (a1, .inl (T 0, 10, .inl af1)), (a2, .inl (T 0, 10, .inl af2)), (a3, .inl (T 0, 10, .inl gb)), (a4, .inl (T 0, 10, .inl af4)), (a5, .inl (T 0, 10, .inl af5)), (a6, .inl (T 0, 10, .inl af6)), (a7, .inl (T 0, 10, .inl gc)), (a8, .inl (T 0, 10, .inl gd)), (a9, .inl (T 0, 10, .inl af9)), (a10, .inl (T 0, 10, .inl ge))] H locs → lv_has ls 7 [(6, .int (nI k6)), (5, .int x5), (0, .ref a0), (1, .int (nI cn)), (2, .int idl), (3, .int (-1)), (4, .int (nI 0))] → W p l e (rmD 4 0 0) s m args below meth c H locs 0 0 (MQ below (gQ D A (q_s_allCustom_f T fa lz a0 cn idl an am al ao au a1 a2 a3 a4 a5 a6 a7 a8 a9 a10 af1 af2 af3 af4 af5 af6 af7 af8 af9 af10)) args s 0 0 A) (F0 m 6 ls []) := by
    intro fu_6
    induction fu_6 with
    | zero => intro k6 x5 mv uv gb gc gd ge hk6 hx5 hgb hgc hmv hmu; exact absurd hmu (Nat.not_lt_zero _)
    | succ fu_6 ih_6 =>
      intro k6 x5 mv uv gb gc gd ge hk6 hx5 hgb hgc hmv hmu_6 H locs ls V hl
      refine lv_iload hx hb dX5_passAllByCustom_6 (lv_at hl 0 rfl) ?_
      refine lv_iload_n hx hb dX5_passAllByCustom_8 rfl (lv_at hl 3 rfl) ?_
      refine lv_icmp_ge (tgt := 31) hx hb dX5_passAllByCustom_9 (by decide) (fun c_2 => ?_) (fun c_2 => ?_)
      · skip
        have c_2 := b_le (by omega) (by omega) c_2
        refine lv_iload hx hb dX5_passAllByCustom_31 (lv_at hl 1 rfl) ?_
        exact g_iret (Qr := (q_s_allCustom_f T fa lz a0 cn idl an am al ao au a1 a2 a3 a4 a5 a6 a7 a8 a9 a10 af1 af2 af3 af4 af5 af6 af7 af8 af9 af10)) hC V ⟨(Nat.le_of_ble_eq_true rfl), (Nat.le_of_ble_eq_true rfl)⟩ ⟨x5, uv, mv, gb, gc, gd, ge, rfl, rfl, (by rw [hx5]; congr 1; omega), (fun i hi => by rw [hgb i hi]; congr 2; omega), (fun i hi => by rw [hgc i hi]; congr 2; omega), (by rw [hmv]; congr 2; omega)⟩ dX5_passAllByCustom_33
      · skip
        have c_2 := b_nle (by omega) (by omega) c_2
        refine lv_iload hx hb dX5_passAllByCustom_12 (lv_at hl 1 rfl) ?_
        refine lv_aload_n hx hb dX5_passAllByCustom_14 rfl (lv_at hl 2 rfl) ?_
        refine lv_iload_n hx hb dX5_passAllByCustom_15 rfl (lv_at hl 4 rfl) ?_
        refine lv_iload_n hx hb dX5_passAllByCustom_16 rfl (lv_at hl 5 rfl) ?_
        refine lv_iload hx hb dX5_passAllByCustom_17 (lv_at hl 6 rfl) ?_
        refine g_callV (wr := []) (nA := 3) hC V hl.1 (s_byCustom_f l D T (cuI an fa lz k6) lz a0 idl an mv al ao uv a1 a2 a3 a4 a5 a6 a7 a8 a9 a10 af1 af2 gb af4 af5 af6 gc gd af9 ge h_n h_t (fun i hi => (h_s1 i hi).trans (cuI_o h_n (by omega) (by omega) _).symm) (fun i hi => (h_s2 i hi).trans (cuI_o h_n (by omega) (by omega) _).symm) hgb (fun i hi => (h_s4 i hi).trans (cuI_o h_n (by omega) (by omega) _).symm) (fun i hi => (h_s5 i hi).trans (cuI_o h_n (by omega) (by omega) _).symm) (fun i hi => (h_s6 i hi).trans (cuI_o h_n (by omega) (by omega) _).symm) hgc (fun i hi => (h_s9 i hi).trans (cuI_o h_n (by omega) (by omega) _).symm) (h_o.trans (cuI_o h_n (by omega) (by omega) _).symm) (cuI_mi h_a _) h_il) w_544 w_545 w_546 w_3 w_547 (by decide +kernel) rfl ⟨(Nat.le_of_ble_eq_true rfl), (Nat.le_of_ble_eq_true rfl)⟩ 0 (ci := 5) rfl rfl [0, 1, 2, 3, 4, 5, 6, 7, 8, 9, 10] [] rfl rfl rfl rfl (by decide) (Nat.le_of_ble_eq_true rfl) dX5_passAllByCustom_19 ⟨(Nat.le_of_ble_eq_true rfl), (Nat.le_of_ble_eq_true rfl)⟩ rfl (fun r w1 H locs hQ V => ?_)
        obtain ⟨z_3, u_4, g3_5, g7_6, g8_7, g10_8, rfl, rfl, f_9, f_10, f_11, f_12⟩ := hQ
        have V : gW D T A s [(a0, .inr (5, [.int (nI an), .int (mv + (nI 1)), .int al, .int ao, .int u_4, .ref a1, .ref a2, .ref a3, .ref a4, .ref a5, .ref a6, .ref a7, .ref a8, .ref a9, .ref a10])), (a1, .inl (T 0, 10, .inl af1)), (a2, .inl (T 0, 10, .inl af2)), (a3, .inl (T 0, 10, .inl g3_5)), (a4, .inl (T 0, 10, .inl af4)), (a5, .inl (T 0, 10, .inl af5)), (a6, .inl (T 0, 10, .inl af6)), (a7, .inl (T 0, 10, .inl g7_6)), (a8, .inl (T 0, 10, .inl g8_7)), (a9, .inl (T 0, 10, .inl af9)), (a10, .inl (T 0, 10, .inl g10_8))] H locs := V
        show W p l e _ s m args below meth c H locs _ _ _ (F0 m 22 ls [.int z_3, .int x5])
        refine lv_iadd hx hb dX5_passAllByCustom_22 ?_
        refine lv_istore (lv' := [(5, .int (x5 + z_3)), (6, .int (nI k6)), (0, .ref a0), (1, .int (nI cn)), (2, .int idl), (3, .int (-1)), (4, .int (nI 0))]) hx hb dX5_passAllByCustom_23 hl (by decide) rfl (fun ls hl => ?_)
        refine lv_iinc (v := (nI (k6 + 1))) (lv' := [(6, .int (nI (k6 + 1))), (5, .int (x5 + z_3)), (0, .ref a0), (1, .int (nI cn)), (2, .int idl), (3, .int (-1)), (4, .int (nI 0))]) hx hb dX5_passAllByCustom_25 hl (k := 1) rfl (nI_1 _) (by decide) rfl (fun ls hl => ?_)
        refine lv_goto (tgt := 6) hx hb dX5_passAllByCustom_28 (by decide) ?_
        exact ih_6 (k6 + 1) (x5 + z_3) (mv + (nI 1)) u_4 g3_5 g7_6 g8_7 g10_8 (by omega) (by rw [hx5, f_9]; rfl) (fun i hi => (f_10 i hi).trans (goF_24 h_n hi).symm) (fun i hi => (f_11 i hi).trans (goF_64 h_n hi).symm) (by rw [hmv]; exact cuI_1.symm) (by omega) _ _ _ V (lv_sub hl [0, 1, 2, 3, 4, 5, 6] rfl)
  exact L_1 _ 0 (nI 0) am au af3 af7 af8 af10 (by omega) rfl h_s3 h_s7 h_m (Nat.lt_succ_self _) _ _ _ V (lv_sub hl [0, 1, 2, 3, 4, 5, 6] rfl)
