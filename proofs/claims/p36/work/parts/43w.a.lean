/-! a stranger, who blows the fire jf -/
def mrS (f : Nat → Int32) (jf : Nat) (bl : Int32) : Int32 := if f (44 + jf) < f (24 + jf) + bl then nI 0 else bl
def csI (n : Nat) (f : Nat → Int32) (lz : Int32) (jf : Nat) (bl : Int32) : Nat → Nat → Int32
  | 0 => f
  | k + 1 => goF n (csI n f lz jf bl k) (cuPl (csI n f lz jf bl k) lz n) (cuSk (csI n f lz jf bl k) lz n) (nI jf) (mrS (csI n f lz jf bl k) jf bl)
theorem csI_mi {n jf : Nat} {f : Nat → Int32} {lz bl : Int32} (h : MI n f) : ∀ k, MI n (csI n f lz jf bl k)
  | 0 => h
  | k + 1 => MI_go (csI_mi h k)
theorem csI_o {n j jf : Nat} {f : Nat → Int32} {lz bl : Int32} (hn : n ≤ 10) (h1 : j ≠ 1) (h2 : j < 24 ∨ (34 ≤ j ∧ j < 64) ∨ 84 ≤ j) : ∀ k, csI n f lz jf bl k j = f j
  | 0 => rfl
  | k + 1 => (goF_o hn h1 h2).trans (csI_o hn h1 h2 k)
theorem hN_ext {n i : Nat} {f : Nat → Int32} {pl fi fi' mr mr' : Int32} (h : (if nI i = fi then mr else nI 0) = (if nI i = fi' then mr' else nI 0)) : hNw n f pl fi mr i = hNw n f pl fi' mr' i := by unfold hNw; rw [h]
theorem s2_ext {n i : Nat} {f : Nat → Int32} {pl sk fi fi' mr mr' : Int32} (h : (if nI i = fi then mr else nI 0) = (if nI i = fi' then mr' else nI 0)) : st2 n f pl sk fi mr i = st2 n f pl sk fi' mr' i := by
  have e := hN_ext (n := n) (f := f) (pl := pl) h
  have e2 : burP n f pl sk fi mr i ↔ burP n f pl sk fi' mr' i := by unfold burP; rw [e]
  unfold st2
  by_cases c : burP n f pl sk fi mr i
  · rw [if_pos c, if_pos (e2.mp c)]
  · rw [if_neg c, if_neg (fun q => c (e2.mpr q))]
theorem mr_y {f : Nat → Int32} {jf : Nat} {bl : Int32} (h : ¬ f (44 + jf) < f (24 + jf) + bl) : mrS f jf bl = bl := if_neg h
theorem mr_n {f : Nat → Int32} {jf : Nat} {bl : Int32} (h : f (44 + jf) < f (24 + jf) + bl) : mrS f jf bl = nI 0 := if_pos h
theorem sx_n {f : Nat → Int32} {jf i : Nat} {bl : Int32} (h : mrS f jf bl = nI 0) (hi : i < 100) : (if nI i = -1 then bl else nI 0) = (if nI i = nI jf then mrS f jf bl else nI 0) := by
  rw [if_neg (m1_ne i hi), h]
  split <;> rfl
/-! what he brings -/
def bpD (n : Nat) (f : Nat → Int32) (b : Int32) (k i : Nat) : Int32 := donF (csI n f (-1) (f (84 + i)).toNatClampNeg b k) n
def stA (n : Nat) (f : Nat → Int32) (i b v : Int32) : Int32 := if smP n i then (if b < nI 0 ∨ nI 60 < b then -3 else if tmA 200 (f 1) v = nI 0 then bpD n f b v.toNatClampNeg i.toNatClampNeg - donF (cuI n f (-1) v.toNatClampNeg) n else tmA 200 (f 1) v) else -2
/-- why a stranger is refused -/
def rsA (m b v : Int32) : Int32 := if b < nI 0 ∨ nI 60 < b then -3 else tmA 200 m v
theorem rs_b {m b v : Int32} (h : b < nI 0 ∨ nI 60 < b) : -3 = rsA m b v := by unfold rsA; rw [if_pos h]
theorem rs_t {m b v z : Int32} (h1 : ¬ b < nI 0) (h2 : ¬ nI 60 < b) (h : z = tmA 200 m v) : z = rsA m b v := by unfold rsA; rw [if_neg (fun q => q.elim h1 h2)]; exact h
theorem rs_0 {m b v : Int32} (h : nI 0 = rsA m b v) : ¬ (b < nI 0 ∨ nI 60 < b) ∧ nI 0 = tmA 200 m v := by
  unfold rsA at h
  split at h
  · exact absurd h.symm m3_0
  · rename_i q; exact ⟨q, h⟩
theorem st_o {n : Nat} {f : Nat → Int32} {i b v : Int32} (h : i < 0 ∨ nI n ≤ i) : -2 = stA n f i b v := by unfold stA; rw [if_neg (fun q => q h)]
theorem st_n {n k : Nat} {f : Nat → Int32} {i b v z : Int32} (hn : n ≤ 10) (ei : i = nI k) (hk : k < n) (h : z = rsA (f 1) b v) (hz : ¬ z = 0) : z = stA n f i b v := by
  unfold stA; rw [if_pos (smP_of ei hk hn)]
  unfold rsA at h
  by_cases c : b < nI 0 ∨ nI 60 < b
  · rw [if_pos c] at h ⊢; exact h
  · rw [if_neg c] at h ⊢
    rw [if_neg (show ¬ tmA 200 (f 1) v = nI 0 from fun q => hz (h.trans q))]; exact h
theorem st_y {n j k : Nat} {f : Nat → Int32} {i b v : Int32} (hn : n ≤ 10) (ei : i = nI k) (hk : k < n) (h : nI 0 = rsA (f 1) b v) (e : v = nI j) (hj : j < 1000) : bpD n f b j k - donF (cuI n f (-1) j) n = stA n f i b v := by
  obtain ⟨h1, h2⟩ := rs_0 h
  unfold stA; rw [if_pos (smP_of ei hk hn), if_neg h1, if_pos h2.symm, e, ei, nI_clamp (by omega), nI_clamp (by omega)]
theorem bpD_e {n i j k : Nat} {f : Nat → Int32} {b : Int32} (e : f (84 + i) = nI j) (hj : j < 100) : donF (csI n f (-1) j b k) n = bpD n f b k i := by unfold bpD; rw [e, nI_clamp (by omega)]
/-! where he is best -/
theorem don_bd (f : Nat → Int32) : ∀ n, bd (donF f n) (n + 1)
  | 0 => bd_nI (by decide)
  | n + 1 => by
    obtain ⟨j, hj, e⟩ := don_bd f n
    show bd (donF f n + _) _
    rw [e]
    split
    · rw [nI_add]; exact bd_nI (by omega)
    · rw [nI_add]; exact bd_nI (by omega)
def bpR (n : Nat) (f : Nat → Int32) (b : Int32) (k : Nat) : Nat → Nat
  | 0 => 0
  | i + 1 => if i = 0 then 0 else if bpD n f b k (bpR n f b k i) < bpD n f b k i then i else bpR n f b k i
theorem bpR_0 {n k i : Nat} {f : Nat → Int32} {b : Int32} (h : i = 0) : bpR n f b k (i + 1) = 0 := if_pos h
theorem bpR_y {n k i : Nat} {f : Nat → Int32} {b : Int32} (h0 : i ≠ 0) (h : bpD n f b k (bpR n f b k i) < bpD n f b k i) : bpR n f b k (i + 1) = i := by
  show (if i = 0 then 0 else if bpD n f b k (bpR n f b k i) < bpD n f b k i then i else bpR n f b k i) = i
  rw [if_neg h0, if_pos h]
theorem bpR_n {n k i : Nat} {f : Nat → Int32} {b : Int32} (h0 : i ≠ 0) (h : ¬ bpD n f b k (bpR n f b k i) < bpD n f b k i) : bpR n f b k (i + 1) = bpR n f b k i := by
  show (if i = 0 then 0 else if bpD n f b k (bpR n f b k i) < bpD n f b k i then i else bpR n f b k i) = _
  rw [if_neg h0, if_neg h]
def bpM (n : Nat) (f : Nat → Int32) (b : Int32) (k i : Nat) : Int32 := if i = 0 then -1 else bpD n f b k (bpR n f b k i)
theorem bpM_s {n k i : Nat} {f : Nat → Int32} {b : Int32} : bpM n f b k (i + 1) = bpD n f b k (bpR n f b k (i + 1)) := if_neg (Nat.succ_ne_zero i)
theorem bpM_y {n k i : Nat} {f : Nat → Int32} {b : Int32} (h : bpM n f b k i < bpD n f b k i) : bpR n f b k (i + 1) = i ∧ bpD n f b k i = bpM n f b k (i + 1) := by
  by_cases c : i = 0
  · have e := bpR_0 (n := n) (k := k) (f := f) (b := b) c
    rw [bpM_s, e, c]; exact ⟨rfl, rfl⟩
  · have e := bpR_y (n := n) (k := k) (f := f) (b := b) c (by unfold bpM at h; rw [if_neg c] at h; exact h)
    rw [bpM_s, e]; exact ⟨rfl, rfl⟩
theorem bpM_n {n k i : Nat} {f : Nat → Int32} {b : Int32} (hn : n ≤ 10) (h : ¬ bpM n f b k i < bpD n f b k i) : bpR n f b k (i + 1) = bpR n f b k i ∧ bpM n f b k i = bpM n f b k (i + 1) := by
  by_cases c : i = 0
  · exfalso
    apply h
    unfold bpM; rw [if_pos c]
    obtain ⟨j, hj, e⟩ := don_bd (csI n f (-1) (f (84 + i)).toNatClampNeg b k) n
    show -1 < donF _ n
    rw [e, Int32.lt_iff_toInt_lt]
    by_cases q : j < 2147483648
    · rw [nI_toInt q, show (-1 : Int32).toInt = -1 by decide +kernel]; omega
    · exfalso; exact q (by omega)
  · have hm : bpM n f b k i = bpD n f b k (bpR n f b k i) := if_neg c
    have e := bpR_n (n := n) (k := k) (f := f) (b := b) c (by rw [← hm]; exact h)
    rw [bpM_s, e, hm]; exact ⟨rfl, rfl⟩
theorem bp_cmp {x y z : Int32} (hx : bd x 12) (hy : bd y 12) (hz : bd z 12) : x - z < y - z ↔ x < y := by
  obtain ⟨a, ha, rfl⟩ := hx
  obtain ⟨b, hb, rfl⟩ := hy
  obtain ⟨c, hc, rfl⟩ := hz
  have H : ∀ a b c : Fin 12, (nI a.1 - nI c.1 < nI b.1 - nI c.1) ↔ nI a.1 < nI b.1 := by decide +kernel
  exact H ⟨a, ha⟩ ⟨b, hb⟩ ⟨c, hc⟩
theorem don_12 (f : Nat → Int32) {n : Nat} (hn : n ≤ 10) : bd (donF f n) 12 := bd_le (don_bd f n) (by omega)
def bpA (n : Nat) (f : Nat → Int32) (b v : Int32) : Int32 := if n = 0 then -1 else if rsA (f 1) b v = nI 0 then nI (bpR n f b v.toNatClampNeg n) else rsA (f 1) b v
theorem bp_0 {n : Nat} {f : Nat → Int32} {b v : Int32} (h : n = 0) : -1 = bpA n f b v := by unfold bpA; rw [if_pos h]
theorem bp_n {n : Nat} {f : Nat → Int32} {b v z : Int32} (h0 : n ≠ 0) (h : z = rsA (f 1) b v) (hz : ¬ z = 0) : z = bpA n f b v := by
  unfold bpA; rw [if_neg h0, if_neg (show ¬ rsA (f 1) b v = nI 0 from fun q => hz (h.trans q))]; exact h
theorem bp_y {n j : Nat} {f : Nat → Int32} {b v : Int32} (h0 : n ≠ 0) (h : nI 0 = rsA (f 1) b v) (e : v = nI j) (hj : j < 1000) : nI (bpR n f b j n) = bpA n f b v := by
  unfold bpA; rw [if_neg h0, if_pos h.symm, e, nI_clamp (by omega)]

def q_s_byCustomS_f (T : Nat → ClassId) (fa : Nat → Int32) (lz : Int32) (a0 : Nat) (idl : Int32) (jf : Nat) (bl : Int32) (an : Nat) (am : Int32) (al : Int32) (ao : Int32) (au : Int32) (a1 : Nat) (a2 : Nat) (a3 : Nat) (a4 : Nat) (a5 : Nat) (a6 : Nat) (a7 : Nat) (a8 : Nat) (a9 : Nat) (a10 : Nat) (af1 : Nat → Int32) (af2 : Nat → Int32) (af3 : Nat → Int32) (af4 : Nat → Int32) (af5 : Nat → Int32) (af6 : Nat → Int32) (af7 : Nat → Int32) (af8 : Nat → Int32) (af9 : Nat → Int32) (af10 : Nat → Int32) : Option Value → va_W → Prop := fun rr ww => (∃ (z : Int32) (u : Int32) (g3 : Nat → Int32) (g7 : Nat → Int32) (g8 : Nat → Int32) (g10 : Nat → Int32), rr = some (.int z) ∧ ww = [(a0, .inr (5, [.int (nI an), .int (am + (nI 1)), .int al, .int ao, .int u, .ref a1, .ref a2, .ref a3, .ref a4, .ref a5, .ref a6, .ref a7, .ref a8, .ref a9, .ref a10])), (a1, .inl (T 0, 10, .inl af1)), (a2, .inl (T 0, 10, .inl af2)), (a3, .inl (T 0, 10, .inl g3)), (a4, .inl (T 0, 10, .inl af4)), (a5, .inl (T 0, 10, .inl af5)), (a6, .inl (T 0, 10, .inl af6)), (a7, .inl (T 0, 10, .inl g7)), (a8, .inl (T 0, 10, .inl g8)), (a9, .inl (T 0, 10, .inl af9)), (a10, .inl (T 0, 10, .inl g10))] ∧ (∀ i, i < an → g3 i = hNw an fa (cuPl fa lz an) (nI jf) (mrS fa jf bl) i) ∧ (∀ i, i < an → g7 i = st2 an fa (cuPl fa lz an) (cuSk fa lz an) (nI jf) (mrS fa jf bl) i))
set_option maxHeartbeats 4000000 in
set_option maxRecDepth 100000 in
theorem s_byCustomS_f (l : Launch) (D : va_G) (T : Nat → ClassId) (fa : Nat → Int32) (lz : Int32) (a0 : Nat) (idl : Int32) (jf : Nat) (bl : Int32) (an : Nat) (am : Int32) (al : Int32) (ao : Int32) (au : Int32) (a1 : Nat) (a2 : Nat) (a3 : Nat) (a4 : Nat) (a5 : Nat) (a6 : Nat) (a7 : Nat) (a8 : Nat) (a9 : Nat) (a10 : Nat) (af1 : Nat → Int32) (af2 : Nat → Int32) (af3 : Nat → Int32) (af4 : Nat → Int32) (af5 : Nat → Int32) (af6 : Nat → Int32) (af7 : Nat → Int32) (af8 : Nat → Int32) (af9 : Nat → Int32) (af10 : Nat → Int32) (h_n : an ≤ 10) (h_t : ∀ i, i < an → bd (af9 i) an) (h_s1 : ∀ i, i < an → af1 i = fa (4 + i)) (h_s2 : ∀ i, i < an → af2 i = fa (14 + i)) (h_s3 : ∀ i, i < an → af3 i = fa (24 + i)) (h_s4 : ∀ i, i < an → af4 i = fa (34 + i)) (h_s5 : ∀ i, i < an → af5 i = fa (44 + i)) (h_s6 : ∀ i, i < an → af6 i = fa (54 + i)) (h_s7 : ∀ i, i < an → af7 i = fa (64 + i)) (h_s9 : ∀ i, i < an → af9 i = fa (84 + i)) (h_o : ao = fa 2) (h_a : MI an fa) (h_il : ∀ i, i < an → (bitP idl i ↔ nI i = lz)) (h_jf : jf < an) : Ct l yX5_passByCustom cX5_passByCustom 7 (some .int) 3 0 0 D T [.ref a0, .int idl, .int (nI jf), .int bl] [(a0, .inr (5, [.int (nI an), .int am, .int al, .int ao, .int au, .ref a1, .ref a2, .ref a3, .ref a4, .ref a5, .ref a6, .ref a7, .ref a8, .ref a9, .ref a10])), (a1, .inl (T 0, 10, .inl af1)), (a2, .inl (T 0, 10, .inl af2)), (a3, .inl (T 0, 10, .inl af3)), (a4, .inl (T 0, 10, .inl af4)), (a5, .inl (T 0, 10, .inl af5)), (a6, .inl (T 0, 10, .inl af6)), (a7, .inl (T 0, 10, .inl af7)), (a8, .inl (T 0, 10, .inl af8)), (a9, .inl (T 0, 10, .inl af9)), (a10, .inl (T 0, 10, .inl af10))] (q_s_byCustomS_f T fa lz a0 idl jf bl an am al ao au a1 a2 a3 a4 a5 a6 a7 a8 a9 a10 af1 af2 af3 af4 af5 af6 af7 af8 af9 af10) := by
  refine Ct.of (cc := cX5_passByCustom) (maxL := 7) (ret := (some .int)) (by decide) (Nat.le_of_ble_eq_true rfl) ?_
  intro p e s m args below meth c A ls hC hnm V hl
  obtain ⟨hx, hb, hr, hml, hown, hts, hlocks⟩ := id hC
  generalize hH : s.heap = H at V ⊢
  clear hH
  have hl : lv_has ls 7 [(0, .ref a0), (1, .int idl), (2, .int (nI jf)), (3, .int bl)] := hl
  generalize hlo : ([] : List Loc) = locs at V ⊢
  clear hlo
  refine lv_iconst (v := (nI 0)) hx hb dX5_passByCustom_0 (by decide +kernel) ?_
  refine lv_istore (lv' := [(4, .int (nI 0)), (0, .ref a0), (1, .int idl), (2, .int (nI jf)), (3, .int bl)]) hx hb dX5_passByCustom_1 hl (by decide) rfl (fun ls hl => ?_)
  refine lv_iconst (v := (nI 0)) hx hb dX5_passByCustom_3 (by decide +kernel) ?_
  refine lv_istore (lv' := [(5, .int (nI 0)), (4, .int (nI 0)), (0, .ref a0), (1, .int idl), (2, .int (nI jf)), (3, .int bl)]) hx hb dX5_passByCustom_4 hl (by decide) rfl (fun ls hl => ?_)
  refine lv_iconst (v := (nI 0)) hx hb dX5_passByCustom_6 (by decide +kernel) ?_
  refine lv_istore (lv' := [(6, .int (nI 0)), (5, .int (nI 0)), (4, .int (nI 0)), (0, .ref a0), (1, .int idl), (2, .int (nI jf)), (3, .int bl)]) hx hb dX5_passByCustom_7 hl (by decide) rfl (fun ls hl => ?_)
  have L_1 : ∀ (fu : Nat) (k9 : Nat) (sv : Int32) (pv : Int32), k9 ≤ an → sv = cuSk fa lz k9 → pv = cuPl fa lz k9 → an - k9 < fu → ∀ (H : Heap) (locs : List Loc) (ls : Array Slot), gW D T A s [(a0, .inr (5, [.int (nI an), .int am, .int al, .int ao, .int au, .ref a1, .ref a2, .ref a3, .ref a4, .ref a5, .ref a6, .ref a7, .ref a8, .ref a9, .ref a10])), (a1, .inl (T 0, 10, .inl af1)), (a2, .inl (T 0, 10, .inl af2)), (a3, .inl (T 0, 10, .inl af3)), (a4, .inl (T 0, 10, .inl af4)), (a5, .inl (T 0, 10, .inl af5)), (a6, .inl (T 0, 10, .inl af6)), (a7, .inl (T 0, 10, .inl af7)), (a8, .inl (T 0, 10, .inl af8)), (a9, .inl (T 0, 10, .inl af9)), (a10, .inl (T 0, 10, .inl af10))] H locs → lv_has ls 7 [(6, .int (nI k9)), (5, .int pv), (4, .int sv), (0, .ref a0), (1, .int idl), (2, .int (nI jf)), (3, .int bl)] → W p l e (rmD 3 0 0) s m args below meth c H locs 0 0 (MQ below (gQ D A (q_s_byCustomS_f T fa lz a0 idl jf bl an am al ao au a1 a2 a3 a4 a5 a6 a7 a8 a9 a10 af1 af2 af3 af4 af5 af6 af7 af8 af9 af10)) args s 0 0 A) (F0 m 9 ls []) := by
    intro fu_9
    induction fu_9 with
    | zero => intro k9 sv pv hk9 hsv hpv hmu; exact absurd hmu (Nat.not_lt_zero _)
    | succ fu_9 ih_9 =>
      intro k9 sv pv hk9 hsv hpv hmu_9 H locs ls V hl
      refine lv_iload hx hb dX5_passByCustom_9 (lv_at hl 0 rfl) ?_
      refine lv_aload_n hx hb dX5_passByCustom_11 rfl (lv_at hl 3 rfl) ?_
      refine g_get hC V (ci := 5) uwX5 0 rfl rfl 0 (by decide) w_33 rfl rfl dX5_passByCustom_12 ?_
      refine lv_icmp_ge (tgt := 87) hx hb dX5_passByCustom_15 (by decide) (fun c_2 => ?_) (fun c_2 => ?_)
      · skip
        have c_2 := b_le (by omega) (by omega) c_2
        have hsn : sv = cuSk fa lz an := by rw [hsv]; congr 1; omega
        have hpn : pv = cuPl fa lz an := by rw [hpv]; congr 1; omega
        refine lv_aload_n hx hb dX5_passByCustom_87 rfl (lv_at hl 3 rfl) ?_
        refine lv_iload_n hx hb dX5_passByCustom_88 rfl (lv_at hl 5 rfl) ?_
        refine g_callVU (nA := 1) hC V hl.1 (s_isSmith l D T a0 (nI jf) an am al ao au a1 a2 a3 a4 a5 a6 a7 a8 a9 a10 (by first | assumption | omega)) w_486 w_426 w_427 w_3 w_428 (by decide +kernel) rfl ⟨(Nat.le_of_ble_eq_true rfl), (Nat.le_of_ble_eq_true rfl)⟩ 0 (ci := 5) rfl rfl [0] rfl rfl (Nat.le_of_ble_eq_true rfl) dX5_passByCustom_89 ⟨(Nat.le_of_ble_eq_true rfl), (Nat.le_of_ble_eq_true rfl)⟩ rfl (fun r w1 H locs hQ V => ?_)
        rcases hQ with ⟨j_3, rfl, rfl, f_4, f_5⟩ | ⟨rfl, rfl, f_6⟩
        · have V : gW D T A s [(a0, .inr (5, [.int (nI an), .int am, .int al, .int ao, .int au, .ref a1, .ref a2, .ref a3, .ref a4, .ref a5, .ref a6, .ref a7, .ref a8, .ref a9, .ref a10])), (a1, .inl (T 0, 10, .inl af1)), (a2, .inl (T 0, 10, .inl af2)), (a3, .inl (T 0, 10, .inl af3)), (a4, .inl (T 0, 10, .inl af4)), (a5, .inl (T 0, 10, .inl af5)), (a6, .inl (T 0, 10, .inl af6)), (a7, .inl (T 0, 10, .inl af7)), (a8, .inl (T 0, 10, .inl af8)), (a9, .inl (T 0, 10, .inl af9)), (a10, .inl (T 0, 10, .inl af10))] H locs := V _ [0] rfl rfl rfl (by decide +kernel) rfl
          show W p l e _ s m args below meth c H locs _ _ _ (F0 m 92 ls [.int (nI 1)])
          refine lv_if_eq (tgt := 108) hx hb dX5_passByCustom_92 (by decide) (fun c => absurd (show (nI 1) = 0 from c) (by decide +kernel)) (fun _ => ?_)
          refine lv_aload_n hx hb dX5_passByCustom_95 rfl (lv_at hl 3 rfl) ?_
          refine lv_iload_n hx hb dX5_passByCustom_96 rfl (lv_at hl 5 rfl) ?_
          refine lv_iload_n hx hb dX5_passByCustom_97 rfl (lv_at hl 6 rfl) ?_
          refine g_callVU (nA := 2) hC V hl.1 (s_bears_f l D T a0 jf bl an am al ao au a1 a2 a3 a4 a5 a6 a7 a8 a9 a10 af3 af5 (by first | assumption | omega)) w_548 w_550 w_s14 w_3 w_551 (by decide +kernel) rfl ⟨(Nat.le_of_ble_eq_true rfl), (Nat.le_of_ble_eq_true rfl)⟩ 0 (ci := 5) rfl rfl [0, 3, 5] rfl rfl (Nat.le_of_ble_eq_true rfl) dX5_passByCustom_98 ⟨(Nat.le_of_ble_eq_true rfl), (Nat.le_of_ble_eq_true rfl)⟩ rfl (fun r w1 H locs hQ V => ?_)
          rcases hQ with ⟨rfl, rfl, f_7⟩ | ⟨rfl, rfl, f_8⟩
          · have V : gW D T A s [(a0, .inr (5, [.int (nI an), .int am, .int al, .int ao, .int au, .ref a1, .ref a2, .ref a3, .ref a4, .ref a5, .ref a6, .ref a7, .ref a8, .ref a9, .ref a10])), (a1, .inl (T 0, 10, .inl af1)), (a2, .inl (T 0, 10, .inl af2)), (a3, .inl (T 0, 10, .inl af3)), (a4, .inl (T 0, 10, .inl af4)), (a5, .inl (T 0, 10, .inl af5)), (a6, .inl (T 0, 10, .inl af6)), (a7, .inl (T 0, 10, .inl af7)), (a8, .inl (T 0, 10, .inl af8)), (a9, .inl (T 0, 10, .inl af9)), (a10, .inl (T 0, 10, .inl af10))] H locs := V _ [0, 2, 1] rfl rfl rfl (by decide +kernel) rfl
            show W p l e _ s m args below meth c H locs _ _ _ (F0 m 101 ls [.int (nI 1)])
            have hmr : mrS fa jf bl = bl := mr_y (by rw [← h_s5 jf h_jf, ← h_s3 jf h_jf]; exact f_7)
            refine lv_if_eq (tgt := 108) hx hb dX5_passByCustom_101 (by decide) (fun c => absurd (show (nI 1) = 0 from c) (by decide +kernel)) (fun _ => ?_)
            refine lv_iconst (v := (nI 1)) hx hb dX5_passByCustom_104 (by decide +kernel) ?_
            refine lv_goto (tgt := 109) hx hb dX5_passByCustom_105 (by decide) ?_
            refine lv_istore (lv' := [(6, .int (nI 1)), (5, .int pv), (4, .int sv), (0, .ref a0), (1, .int idl), (2, .int (nI jf)), (3, .int bl)]) hx hb dX5_passByCustom_109 hl (by decide) rfl (fun ls hl => ?_)
            refine lv_aload_n hx hb dX5_passByCustom_111 rfl (lv_at hl 3 rfl) ?_
            refine lv_iload hx hb dX5_passByCustom_112 (lv_at hl 1 rfl) ?_
            refine lv_iload hx hb dX5_passByCustom_114 (lv_at hl 2 rfl) ?_
            refine lv_iload hx hb dX5_passByCustom_116 (lv_at hl 0 rfl) ?_
            refine lv_if_eq (tgt := 125) hx hb dX5_passByCustom_118 (by decide) (fun c => absurd (show (nI 1) = 0 from c) (by decide +kernel)) (fun _ => ?_)
            refine lv_iload_n hx hb dX5_passByCustom_121 rfl (lv_at hl 5 rfl) ?_
            refine lv_goto (tgt := 126) hx hb dX5_passByCustom_122 (by decide) ?_
            refine lv_iload_n hx hb dX5_passByCustom_126 rfl (lv_at hl 6 rfl) ?_
            refine g_callV (wr := []) (nA := 4) hC V hl.1 (s_pass_f l D T fa a0 pv sv (nI jf) bl an am al ao au a1 a2 a3 a4 a5 a6 a7 a8 a9 a10 af1 af2 af3 af4 af5 af6 af7 af8 af9 af10 h_n h_t h_s1 h_s2 h_s3 h_s4 h_s5 h_s6 h_s7 h_s9 h_o h_a) w_552 w_467 w_468 w_3 w_469 (by decide +kernel) rfl ⟨(Nat.le_of_ble_eq_true rfl), (Nat.le_of_ble_eq_true rfl)⟩ 0 (ci := 5) rfl rfl [0, 1, 2, 3, 4, 5, 6, 7, 8, 9, 10] [] rfl rfl rfl rfl (by decide) (Nat.le_of_ble_eq_true rfl) dX5_passByCustom_127 ⟨(Nat.le_of_ble_eq_true rfl), (Nat.le_of_ble_eq_true rfl)⟩ rfl (fun r w1 H locs hQ V => ?_)
            obtain ⟨z_9, u_10, g3_11, g7_12, g8_13, g10_14, rfl, rfl, f_15, f_16, f_17, f_18⟩ := hQ
            have V : gW D T A s [(a0, .inr (5, [.int (nI an), .int (am + (nI 1)), .int al, .int ao, .int u_10, .ref a1, .ref a2, .ref a3, .ref a4, .ref a5, .ref a6, .ref a7, .ref a8, .ref a9, .ref a10])), (a1, .inl (T 0, 10, .inl af1)), (a2, .inl (T 0, 10, .inl af2)), (a3, .inl (T 0, 10, .inl g3_11)), (a4, .inl (T 0, 10, .inl af4)), (a5, .inl (T 0, 10, .inl af5)), (a6, .inl (T 0, 10, .inl af6)), (a7, .inl (T 0, 10, .inl g7_12)), (a8, .inl (T 0, 10, .inl g8_13)), (a9, .inl (T 0, 10, .inl af9)), (a10, .inl (T 0, 10, .inl g10_14))] H locs := V
            show W p l e _ s m args below meth c H locs _ _ _ (F0 m 130 ls [.int z_9])
            exact g_iret (Qr := (q_s_byCustomS_f T fa lz a0 idl jf bl an am al ao au a1 a2 a3 a4 a5 a6 a7 a8 a9 a10 af1 af2 af3 af4 af5 af6 af7 af8 af9 af10)) hC V ⟨(Nat.le_of_ble_eq_true rfl), (Nat.le_of_ble_eq_true rfl)⟩ ⟨z_9, u_10, g3_11, g7_12, g8_13, g10_14, rfl, rfl, (by rw [← hpn, hmr]; exact f_16), (by rw [← hpn, ← hsn, hmr]; exact f_17)⟩ dX5_passByCustom_130
          · have V : gW D T A s [(a0, .inr (5, [.int (nI an), .int am, .int al, .int ao, .int au, .ref a1, .ref a2, .ref a3, .ref a4, .ref a5, .ref a6, .ref a7, .ref a8, .ref a9, .ref a10])), (a1, .inl (T 0, 10, .inl af1)), (a2, .inl (T 0, 10, .inl af2)), (a3, .inl (T 0, 10, .inl af3)), (a4, .inl (T 0, 10, .inl af4)), (a5, .inl (T 0, 10, .inl af5)), (a6, .inl (T 0, 10, .inl af6)), (a7, .inl (T 0, 10, .inl af7)), (a8, .inl (T 0, 10, .inl af8)), (a9, .inl (T 0, 10, .inl af9)), (a10, .inl (T 0, 10, .inl af10))] H locs := V _ [0, 2, 1] rfl rfl rfl (by decide +kernel) rfl
            show W p l e _ s m args below meth c H locs _ _ _ (F0 m 101 ls [.int (nI 0)])
            have hmr : mrS fa jf bl = nI 0 := mr_n (by rw [← h_s5 jf h_jf, ← h_s3 jf h_jf]; exact f_8)
            refine lv_if_eq (tgt := 108) hx hb dX5_passByCustom_101 (by decide) (fun _ => ?_) (fun c => absurd (show (nI 0) = 0 by decide +kernel) c)
            refine lv_iconst (v := (nI 0)) hx hb dX5_passByCustom_108 (by decide +kernel) ?_
            refine lv_istore (lv' := [(6, .int (nI 0)), (5, .int pv), (4, .int sv), (0, .ref a0), (1, .int idl), (2, .int (nI jf)), (3, .int bl)]) hx hb dX5_passByCustom_109 hl (by decide) rfl (fun ls hl => ?_)
            refine lv_aload_n hx hb dX5_passByCustom_111 rfl (lv_at hl 3 rfl) ?_
            refine lv_iload hx hb dX5_passByCustom_112 (lv_at hl 1 rfl) ?_
            refine lv_iload hx hb dX5_passByCustom_114 (lv_at hl 2 rfl) ?_
            refine lv_iload hx hb dX5_passByCustom_116 (lv_at hl 0 rfl) ?_
            refine lv_if_eq (tgt := 125) hx hb dX5_passByCustom_118 (by decide) (fun _ => ?_) (fun c => absurd (show (nI 0) = 0 by decide +kernel) c)
            refine lv_iconst (v := (-1)) hx hb dX5_passByCustom_125 (by decide +kernel) ?_
            refine lv_iload_n hx hb dX5_passByCustom_126 rfl (lv_at hl 6 rfl) ?_
            refine g_callV (wr := []) (nA := 4) hC V hl.1 (s_pass_f l D T fa a0 pv sv (-1) bl an am al ao au a1 a2 a3 a4 a5 a6 a7 a8 a9 a10 af1 af2 af3 af4 af5 af6 af7 af8 af9 af10 h_n h_t h_s1 h_s2 h_s3 h_s4 h_s5 h_s6 h_s7 h_s9 h_o h_a) w_552 w_467 w_468 w_3 w_469 (by decide +kernel) rfl ⟨(Nat.le_of_ble_eq_true rfl), (Nat.le_of_ble_eq_true rfl)⟩ 0 (ci := 5) rfl rfl [0, 1, 2, 3, 4, 5, 6, 7, 8, 9, 10] [] rfl rfl rfl rfl (by decide) (Nat.le_of_ble_eq_true rfl) dX5_passByCustom_127 ⟨(Nat.le_of_ble_eq_true rfl), (Nat.le_of_ble_eq_true rfl)⟩ rfl (fun r w1 H locs hQ V => ?_)
            obtain ⟨z_19, u_20, g3_21, g7_22, g8_23, g10_24, rfl, rfl, f_25, f_26, f_27, f_28⟩ := hQ
            have V : gW D T A s [(a0, .inr (5, [.int (nI an), .int (am + (nI 1)), .int al, .int ao, .int u_20, .ref a1, .ref a2, .ref a3, .ref a4, .ref a5, .ref a6, .ref a7, .ref a8, .ref a9, .ref a10])), (a1, .inl (T 0, 10, .inl af1)), (a2, .inl (T 0, 10, .inl af2)), (a3, .inl (T 0, 10, .inl g3_21)), (a4, .inl (T 0, 10, .inl af4)), (a5, .inl (T 0, 10, .inl af5)), (a6, .inl (T 0, 10, .inl af6)), (a7, .inl (T 0, 10, .inl g7_22)), (a8, .inl (T 0, 10, .inl g8_23)), (a9, .inl (T 0, 10, .inl af9)), (a10, .inl (T 0, 10, .inl g10_24))] H locs := V
            show W p l e _ s m args below meth c H locs _ _ _ (F0 m 130 ls [.int z_19])
            exact g_iret (Qr := (q_s_byCustomS_f T fa lz a0 idl jf bl an am al ao au a1 a2 a3 a4 a5 a6 a7 a8 a9 a10 af1 af2 af3 af4 af5 af6 af7 af8 af9 af10)) hC V ⟨(Nat.le_of_ble_eq_true rfl), (Nat.le_of_ble_eq_true rfl)⟩ ⟨z_19, u_20, g3_21, g7_22, g8_23, g10_24, rfl, rfl, (fun i hi => (f_26 i hi).trans (by rw [← hpn]; exact hN_ext (sx_n hmr (by omega)))), (fun i hi => (f_27 i hi).trans (by rw [← hpn, ← hsn]; exact s2_ext (sx_n hmr (by omega))))⟩ dX5_passByCustom_130
        · have V : gW D T A s [(a0, .inr (5, [.int (nI an), .int am, .int al, .int ao, .int au, .ref a1, .ref a2, .ref a3, .ref a4, .ref a5, .ref a6, .ref a7, .ref a8, .ref a9, .ref a10])), (a1, .inl (T 0, 10, .inl af1)), (a2, .inl (T 0, 10, .inl af2)), (a3, .inl (T 0, 10, .inl af3)), (a4, .inl (T 0, 10, .inl af4)), (a5, .inl (T 0, 10, .inl af5)), (a6, .inl (T 0, 10, .inl af6)), (a7, .inl (T 0, 10, .inl af7)), (a8, .inl (T 0, 10, .inl af8)), (a9, .inl (T 0, 10, .inl af9)), (a10, .inl (T 0, 10, .inl af10))] H locs := V _ [0] rfl rfl rfl (by decide +kernel) rfl
          show W p l e _ s m args below meth c H locs _ _ _ (F0 m 92 ls [.int (nI 0)])
          exact ((smP_of rfl h_jf h_n f_6) : False).elim
      · skip
        have c_2 := b_nle (by omega) (by omega) c_2
        refine lv_iload_n hx hb dX5_passByCustom_18 rfl (lv_at hl 4 rfl) ?_
        refine lv_iload hx hb dX5_passByCustom_19 (lv_at hl 0 rfl) ?_
        refine g_callSNU (nA := 2) (host := RX7) hC V hl.1 (c_isIn_f l D T idl k9) w_472 (List.mem_of_getElem? (i := 13) rfl) w_2 w_471 (by decide +kernel) rfl ⟨(Nat.le_of_ble_eq_true rfl), (Nat.le_of_ble_eq_true rfl)⟩ [] rfl rfl (Nat.le_of_ble_eq_true rfl) dX5_passByCustom_21 ⟨(Nat.le_of_ble_eq_true rfl), (Nat.le_of_ble_eq_true rfl)⟩ rfl (fun r w1 H locs hQ V => ?_)
        rcases hQ with ⟨rfl, rfl, f_29⟩ | ⟨rfl, rfl, f_30⟩
        · have V : gW D T A s [(a0, .inr (5, [.int (nI an), .int am, .int al, .int ao, .int au, .ref a1, .ref a2, .ref a3, .ref a4, .ref a5, .ref a6, .ref a7, .ref a8, .ref a9, .ref a10])), (a1, .inl (T 0, 10, .inl af1)), (a2, .inl (T 0, 10, .inl af2)), (a3, .inl (T 0, 10, .inl af3)), (a4, .inl (T 0, 10, .inl af4)), (a5, .inl (T 0, 10, .inl af5)), (a6, .inl (T 0, 10, .inl af6)), (a7, .inl (T 0, 10, .inl af7)), (a8, .inl (T 0, 10, .inl af8)), (a9, .inl (T 0, 10, .inl af9)), (a10, .inl (T 0, 10, .inl af10))] H locs := V _ [] rfl rfl rfl (by decide +kernel) rfl
          show W p l e _ s m args below meth c H locs _ _ _ (F0 m 24 ls [.int (nI 1)])
          refine lv_if_eq (tgt := 30) hx hb dX5_passByCustom_24 (by decide) (fun c => absurd (show (nI 1) = 0 from c) (by decide +kernel)) (fun _ => ?_)
          refine lv_goto (tgt := 81) hx hb dX5_passByCustom_27 (by decide) ?_
          refine lv_iinc (v := (nI (k9 + 1))) (lv' := [(6, .int (nI (k9 + 1))), (5, .int pv), (4, .int sv), (0, .ref a0), (1, .int idl), (2, .int (nI jf)), (3, .int bl)]) hx hb dX5_passByCustom_81 hl (k := 0) rfl (nI_1 _) (by decide) rfl (fun ls hl => ?_)
          refine lv_goto (tgt := 9) hx hb dX5_passByCustom_84 (by decide) ?_
          exact ih_9 (k9 + 1) sv pv (by omega) (by rw [hsv]; exact (cS_lz ((h_il _ (by omega)).mp f_29)).1) (by rw [hpv]; exact (cS_lz ((h_il _ (by omega)).mp f_29)).2) (by omega) _ _ _ V (lv_sub hl [0, 1, 2, 3, 4, 5, 6] rfl)
        · have V : gW D T A s [(a0, .inr (5, [.int (nI an), .int am, .int al, .int ao, .int au, .ref a1, .ref a2, .ref a3, .ref a4, .ref a5, .ref a6, .ref a7, .ref a8, .ref a9, .ref a10])), (a1, .inl (T 0, 10, .inl af1)), (a2, .inl (T 0, 10, .inl af2)), (a3, .inl (T 0, 10, .inl af3)), (a4, .inl (T 0, 10, .inl af4)), (a5, .inl (T 0, 10, .inl af5)), (a6, .inl (T 0, 10, .inl af6)), (a7, .inl (T 0, 10, .inl af7)), (a8, .inl (T 0, 10, .inl af8)), (a9, .inl (T 0, 10, .inl af9)), (a10, .inl (T 0, 10, .inl af10))] H locs := V _ [] rfl rfl rfl (by decide +kernel) rfl
          show W p l e _ s m args below meth c H locs _ _ _ (F0 m 24 ls [.int (nI 0)])
          have hlz : ¬ nI k9 = lz := fun q => f_30 ((h_il _ (by omega)).mpr q)
          refine lv_if_eq (tgt := 30) hx hb dX5_passByCustom_24 (by decide) (fun _ => ?_) (fun c => absurd (show (nI 0) = 0 by decide +kernel) c)
          refine lv_aload_n hx hb dX5_passByCustom_30 rfl (lv_at hl 3 rfl) ?_
          refine lv_iload hx hb dX5_passByCustom_31 (lv_at hl 0 rfl) ?_
          refine g_callVU (nA := 1) hC V hl.1 (s_canStrike l D T a0 k9 an am al ao au a1 a2 a3 a4 a5 a6 a7 a8 a9 a10 af3 af4 af5 af6 af7 (by first | assumption | omega)) w_473 w_474 w_475 w_3 w_476 (by decide +kernel) rfl ⟨(Nat.le_of_ble_eq_true rfl), (Nat.le_of_ble_eq_true rfl)⟩ 0 (ci := 5) rfl rfl [0, 3, 4, 5, 6, 7] rfl rfl (Nat.le_of_ble_eq_true rfl) dX5_passByCustom_33 ⟨(Nat.le_of_ble_eq_true rfl), (Nat.le_of_ble_eq_true rfl)⟩ rfl (fun r w1 H locs hQ V => ?_)
          rcases hQ with ⟨rfl, rfl, f_31, f_32, f_33⟩ | ⟨rfl, rfl, f_34⟩
          · have V : gW D T A s [(a0, .inr (5, [.int (nI an), .int am, .int al, .int ao, .int au, .ref a1, .ref a2, .ref a3, .ref a4, .ref a5, .ref a6, .ref a7, .ref a8, .ref a9, .ref a10])), (a1, .inl (T 0, 10, .inl af1)), (a2, .inl (T 0, 10, .inl af2)), (a3, .inl (T 0, 10, .inl af3)), (a4, .inl (T 0, 10, .inl af4)), (a5, .inl (T 0, 10, .inl af5)), (a6, .inl (T 0, 10, .inl af6)), (a7, .inl (T 0, 10, .inl af7)), (a8, .inl (T 0, 10, .inl af8)), (a9, .inl (T 0, 10, .inl af9)), (a10, .inl (T 0, 10, .inl af10))] H locs := V _ [0, 2, 0, 0, 0, 0] rfl rfl rfl (by decide +kernel) rfl
            show W p l e _ s m args below meth c H locs _ _ _ (F0 m 36 ls [.int (nI 1)])
            refine lv_if_eq (tgt := 51) hx hb dX5_passByCustom_36 (by decide) (fun c => absurd (show (nI 1) = 0 from c) (by decide +kernel)) (fun _ => ?_)
            refine lv_iload hx hb dX5_passByCustom_39 (lv_at hl 2 rfl) ?_
            refine lv_iconst (v := (nI 1)) hx hb dX5_passByCustom_41 (by decide +kernel) ?_
            refine lv_iload hx hb dX5_passByCustom_42 (lv_at hl 0 rfl) ?_
            refine lv_ishl hx hb dX5_passByCustom_44 ?_
            refine lv_ior hx hb dX5_passByCustom_45 ?_
            refine lv_istore (lv' := [(4, .int (sv ||| ((nI 1) <<< ((nI k9) &&& 31)))), (6, .int (nI k9)), (5, .int pv), (0, .ref a0), (1, .int idl), (2, .int (nI jf)), (3, .int bl)]) hx hb dX5_passByCustom_46 hl (by decide) rfl (fun ls hl => ?_)
            refine lv_goto (tgt := 81) hx hb dX5_passByCustom_48 (by decide) ?_
            refine lv_iinc (v := (nI (k9 + 1))) (lv' := [(6, .int (nI (k9 + 1))), (4, .int (sv ||| ((nI 1) <<< ((nI k9) &&& 31)))), (5, .int pv), (0, .ref a0), (1, .int idl), (2, .int (nI jf)), (3, .int bl)]) hx hb dX5_passByCustom_81 hl (k := 1) rfl (nI_1 _) (by decide) rfl (fun ls hl => ?_)
            refine lv_goto (tgt := 9) hx hb dX5_passByCustom_84 (by decide) ?_
            exact ih_9 (k9 + 1) (sv ||| ((nI 1) <<< ((nI k9) &&& 31))) pv (by omega) (by rw [hsv]; exact (cS_y hlz (ctr_y (h_s7 _ (by omega)) (h_s6 _ (by omega)) (h_s3 _ (by omega)) (h_s4 _ (by omega)) (h_s5 _ (by omega)) f_31 f_32 f_33)).1) (by rw [hpv]; exact (cS_y hlz (ctr_y (h_s7 _ (by omega)) (h_s6 _ (by omega)) (h_s3 _ (by omega)) (h_s4 _ (by omega)) (h_s5 _ (by omega)) f_31 f_32 f_33)).2) (by omega) _ _ _ V (lv_sub hl [0, 2, 1, 3, 4, 5, 6] rfl)
          · have V : gW D T A s [(a0, .inr (5, [.int (nI an), .int am, .int al, .int ao, .int au, .ref a1, .ref a2, .ref a3, .ref a4, .ref a5, .ref a6, .ref a7, .ref a8, .ref a9, .ref a10])), (a1, .inl (T 0, 10, .inl af1)), (a2, .inl (T 0, 10, .inl af2)), (a3, .inl (T 0, 10, .inl af3)), (a4, .inl (T 0, 10, .inl af4)), (a5, .inl (T 0, 10, .inl af5)), (a6, .inl (T 0, 10, .inl af6)), (a7, .inl (T 0, 10, .inl af7)), (a8, .inl (T 0, 10, .inl af8)), (a9, .inl (T 0, 10, .inl af9)), (a10, .inl (T 0, 10, .inl af10))] H locs := V _ [0, 2, 0, 0, 0, 0] rfl rfl rfl (by decide +kernel) rfl
            show W p l e _ s m args below meth c H locs _ _ _ (F0 m 36 ls [.int (nI 0)])
            have hnc : ¬ cuStr fa k9 := ctr_n (h_s7 _ (by omega)) (h_s6 _ (by omega)) (h_s3 _ (by omega)) (h_s4 _ (by omega)) (h_s5 _ (by omega)) f_34
            refine lv_if_eq (tgt := 51) hx hb dX5_passByCustom_36 (by decide) (fun _ => ?_) (fun c => absurd (show (nI 0) = 0 by decide +kernel) c)
            refine lv_aload_n hx hb dX5_passByCustom_51 rfl (lv_at hl 3 rfl) ?_
            refine lv_aload_n hx hb dX5_passByCustom_52 rfl (lv_at hl 3 rfl) ?_
            refine g_get hC V (ci := 5) uwX5 0 rfl rfl 13 (by decide) w_82 rfl rfl dX5_passByCustom_53 ?_
            refine lv_iload hx hb dX5_passByCustom_56 (lv_at hl 0 rfl) ?_
            obtain ⟨j_35, hj_35, ej_35⟩ := bd_ex (h_t k9 (by omega))
            refine g_iald hC V 9 rfl (vp_in_nI (by omega) (by omega)) (v := (nI j_35)) (by rw [nI_clamp (by omega)]; exact ej_35) dX5_passByCustom_58 ?_
            refine lv_aload_n hx hb dX5_passByCustom_59 rfl (lv_at hl 3 rfl) ?_
            refine g_get hC V (ci := 5) uwX5 0 rfl rfl 5 (by decide) w_51 rfl rfl dX5_passByCustom_60 ?_
            refine lv_iload hx hb dX5_passByCustom_63 (lv_at hl 0 rfl) ?_
            refine g_iald hC V 1 rfl (vp_in_nI (by omega) (by omega)) (v := (af1 k9)) (congrArg _ (nI_clamp (by omega))) dX5_passByCustom_65 ?_
            refine g_callVU (nA := 2) hC V hl.1 (s_bears_f l D T a0 j_35 (af1 k9) an am al ao au a1 a2 a3 a4 a5 a6 a7 a8 a9 a10 af3 af5 (by first | assumption | omega)) w_548 w_550 w_s14 w_3 w_551 (by decide +kernel) rfl ⟨(Nat.le_of_ble_eq_true rfl), (Nat.le_of_ble_eq_true rfl)⟩ 0 (ci := 5) rfl rfl [0, 3, 5] rfl rfl (Nat.le_of_ble_eq_true rfl) dX5_passByCustom_66 ⟨(Nat.le_of_ble_eq_true rfl), (Nat.le_of_ble_eq_true rfl)⟩ rfl (fun r w1 H locs hQ V => ?_)
            rcases hQ with ⟨rfl, rfl, f_36⟩ | ⟨rfl, rfl, f_37⟩
            · have V : gW D T A s [(a0, .inr (5, [.int (nI an), .int am, .int al, .int ao, .int au, .ref a1, .ref a2, .ref a3, .ref a4, .ref a5, .ref a6, .ref a7, .ref a8, .ref a9, .ref a10])), (a1, .inl (T 0, 10, .inl af1)), (a2, .inl (T 0, 10, .inl af2)), (a3, .inl (T 0, 10, .inl af3)), (a4, .inl (T 0, 10, .inl af4)), (a5, .inl (T 0, 10, .inl af5)), (a6, .inl (T 0, 10, .inl af6)), (a7, .inl (T 0, 10, .inl af7)), (a8, .inl (T 0, 10, .inl af8)), (a9, .inl (T 0, 10, .inl af9)), (a10, .inl (T 0, 10, .inl af10))] H locs := V _ [0, 2, 1] rfl rfl rfl (by decide +kernel) rfl
              show W p l e _ s m args below meth c H locs _ _ _ (F0 m 69 ls [.int (nI 1)])
              refine lv_if_eq (tgt := 81) hx hb dX5_passByCustom_69 (by decide) (fun c => absurd (show (nI 1) = 0 from c) (by decide +kernel)) (fun _ => ?_)
              refine lv_iload hx hb dX5_passByCustom_72 (lv_at hl 1 rfl) ?_
              refine lv_iconst (v := (nI 1)) hx hb dX5_passByCustom_74 (by decide +kernel) ?_
              refine lv_iload hx hb dX5_passByCustom_75 (lv_at hl 0 rfl) ?_
              refine lv_ishl hx hb dX5_passByCustom_77 ?_
              refine lv_ior hx hb dX5_passByCustom_78 ?_
              refine lv_istore (lv' := [(5, .int (pv ||| ((nI 1) <<< ((nI k9) &&& 31)))), (6, .int (nI k9)), (4, .int sv), (0, .ref a0), (1, .int idl), (2, .int (nI jf)), (3, .int bl)]) hx hb dX5_passByCustom_79 hl (by decide) rfl (fun ls hl => ?_)
              refine lv_iinc (v := (nI (k9 + 1))) (lv' := [(6, .int (nI (k9 + 1))), (5, .int (pv ||| ((nI 1) <<< ((nI k9) &&& 31)))), (4, .int sv), (0, .ref a0), (1, .int idl), (2, .int (nI jf)), (3, .int bl)]) hx hb dX5_passByCustom_81 hl (k := 1) rfl (nI_1 _) (by decide) rfl (fun ls hl => ?_)
              refine lv_goto (tgt := 9) hx hb dX5_passByCustom_84 (by decide) ?_
              exact ih_9 (k9 + 1) sv (pv ||| ((nI 1) <<< ((nI k9) &&& 31))) (by omega) (by rw [hsv]; exact (cP_y hlz hnc ((bea (f := fa) ((h_s9 _ (by omega)).symm.trans ej_35) (by omega) (h_s5 _ (by omega)) (h_s3 _ (by omega)) (h_s1 _ (by omega))).mp f_36)).1) (by rw [hpv]; exact (cP_y hlz hnc ((bea (f := fa) ((h_s9 _ (by omega)).symm.trans ej_35) (by omega) (h_s5 _ (by omega)) (h_s3 _ (by omega)) (h_s1 _ (by omega))).mp f_36)).2) (by omega) _ _ _ V (lv_sub hl [0, 1, 2, 3, 4, 5, 6] rfl)
            · have V : gW D T A s [(a0, .inr (5, [.int (nI an), .int am, .int al, .int ao, .int au, .ref a1, .ref a2, .ref a3, .ref a4, .ref a5, .ref a6, .ref a7, .ref a8, .ref a9, .ref a10])), (a1, .inl (T 0, 10, .inl af1)), (a2, .inl (T 0, 10, .inl af2)), (a3, .inl (T 0, 10, .inl af3)), (a4, .inl (T 0, 10, .inl af4)), (a5, .inl (T 0, 10, .inl af5)), (a6, .inl (T 0, 10, .inl af6)), (a7, .inl (T 0, 10, .inl af7)), (a8, .inl (T 0, 10, .inl af8)), (a9, .inl (T 0, 10, .inl af9)), (a10, .inl (T 0, 10, .inl af10))] H locs := V _ [0, 2, 1] rfl rfl rfl (by decide +kernel) rfl
              show W p l e _ s m args below meth c H locs _ _ _ (F0 m 69 ls [.int (nI 0)])
              refine lv_if_eq (tgt := 81) hx hb dX5_passByCustom_69 (by decide) (fun _ => ?_) (fun c => absurd (show (nI 0) = 0 by decide +kernel) c)
              refine lv_iinc (v := (nI (k9 + 1))) (lv' := [(6, .int (nI (k9 + 1))), (5, .int pv), (4, .int sv), (0, .ref a0), (1, .int idl), (2, .int (nI jf)), (3, .int bl)]) hx hb dX5_passByCustom_81 hl (k := 0) rfl (nI_1 _) (by decide) rfl (fun ls hl => ?_)
              refine lv_goto (tgt := 9) hx hb dX5_passByCustom_84 (by decide) ?_
              exact ih_9 (k9 + 1) sv pv (by omega) (by rw [hsv]; exact (cP_n hlz hnc (fun q => absurd f_37 ((bea (f := fa) ((h_s9 _ (by omega)).symm.trans ej_35) (by omega) (h_s5 _ (by omega)) (h_s3 _ (by omega)) (h_s1 _ (by omega))).mpr q))).1) (by rw [hpv]; exact (cP_n hlz hnc (fun q => absurd f_37 ((bea (f := fa) ((h_s9 _ (by omega)).symm.trans ej_35) (by omega) (h_s5 _ (by omega)) (h_s3 _ (by omega)) (h_s1 _ (by omega))).mpr q))).2) (by omega) _ _ _ V (lv_sub hl [0, 1, 2, 3, 4, 5, 6] rfl)
  exact L_1 _ 0 (nI 0) (nI 0) (by omega) rfl rfl (Nat.lt_succ_self _) _ _ _ V (lv_sub hl [0, 1, 2, 3, 4, 5, 6] rfl)

def q_s_allCustomS_f (T : Nat → ClassId) (fa : Nat → Int32) (lz : Int32) (a0 : Nat) (cn : Nat) (idl : Int32) (jf : Nat) (bl : Int32) (an : Nat) (am : Int32) (al : Int32) (ao : Int32) (au : Int32) (a1 : Nat) (a2 : Nat) (a3 : Nat) (a4 : Nat) (a5 : Nat) (a6 : Nat) (a7 : Nat) (a8 : Nat) (a9 : Nat) (a10 : Nat) (af1 : Nat → Int32) (af2 : Nat → Int32) (af3 : Nat → Int32) (af4 : Nat → Int32) (af5 : Nat → Int32) (af6 : Nat → Int32) (af7 : Nat → Int32) (af8 : Nat → Int32) (af9 : Nat → Int32) (af10 : Nat → Int32) : Option Value → va_W → Prop := fun rr ww => (∃ (z : Int32) (u : Int32) (mm : Int32) (g3 : Nat → Int32) (g7 : Nat → Int32) (g8 : Nat → Int32) (g10 : Nat → Int32), rr = some (.int z) ∧ ww = [(a0, .inr (5, [.int (nI an), .int mm, .int al, .int ao, .int u, .ref a1, .ref a2, .ref a3, .ref a4, .ref a5, .ref a6, .ref a7, .ref a8, .ref a9, .ref a10])), (a1, .inl (T 0, 10, .inl af1)), (a2, .inl (T 0, 10, .inl af2)), (a3, .inl (T 0, 10, .inl g3)), (a4, .inl (T 0, 10, .inl af4)), (a5, .inl (T 0, 10, .inl af5)), (a6, .inl (T 0, 10, .inl af6)), (a7, .inl (T 0, 10, .inl g7)), (a8, .inl (T 0, 10, .inl g8)), (a9, .inl (T 0, 10, .inl af9)), (a10, .inl (T 0, 10, .inl g10))] ∧ (∀ i, i < an → g3 i = csI an fa lz jf bl cn (24 + i)) ∧ (∀ i, i < an → g7 i = csI an fa lz jf bl cn (64 + i)))
set_option maxHeartbeats 4000000 in
set_option maxRecDepth 100000 in
theorem s_allCustomS_f (l : Launch) (D : va_G) (T : Nat → ClassId) (fa : Nat → Int32) (lz : Int32) (a0 : Nat) (cn : Nat) (idl : Int32) (jf : Nat) (bl : Int32) (an : Nat) (am : Int32) (al : Int32) (ao : Int32) (au : Int32) (a1 : Nat) (a2 : Nat) (a3 : Nat) (a4 : Nat) (a5 : Nat) (a6 : Nat) (a7 : Nat) (a8 : Nat) (a9 : Nat) (a10 : Nat) (af1 : Nat → Int32) (af2 : Nat → Int32) (af3 : Nat → Int32) (af4 : Nat → Int32) (af5 : Nat → Int32) (af6 : Nat → Int32) (af7 : Nat → Int32) (af8 : Nat → Int32) (af9 : Nat → Int32) (af10 : Nat → Int32) (h_n : an ≤ 10) (h_t : ∀ i, i < an → bd (af9 i) an) (h_s1 : ∀ i, i < an → af1 i = fa (4 + i)) (h_s2 : ∀ i, i < an → af2 i = fa (14 + i)) (h_s3 : ∀ i, i < an → af3 i = fa (24 + i)) (h_s4 : ∀ i, i < an → af4 i = fa (34 + i)) (h_s5 : ∀ i, i < an → af5 i = fa (44 + i)) (h_s6 : ∀ i, i < an → af6 i = fa (54 + i)) (h_s7 : ∀ i, i < an → af7 i = fa (64 + i)) (h_s9 : ∀ i, i < an → af9 i = fa (84 + i)) (h_o : ao = fa 2) (h_a : MI an fa) (h_il : ∀ i, i < an → (bitP idl i ↔ nI i = lz)) (h_jf : jf < an) (h_c : cn ≤ 1000) : Ct l yX5_passAllByCustom cX5_passAllByCustom 7 (some .int) 4 0 0 D T [.ref a0, .int (nI cn), .int idl, .int (nI jf), .int bl] [(a0, .inr (5, [.int (nI an), .int am, .int al, .int ao, .int au, .ref a1, .ref a2, .ref a3, .ref a4, .ref a5, .ref a6, .ref a7, .ref a8, .ref a9, .ref a10])), (a1, .inl (T 0, 10, .inl af1)), (a2, .inl (T 0, 10, .inl af2)), (a3, .inl (T 0, 10, .inl af3)), (a4, .inl (T 0, 10, .inl af4)), (a5, .inl (T 0, 10, .inl af5)), (a6, .inl (T 0, 10, .inl af6)), (a7, .inl (T 0, 10, .inl af7)), (a8, .inl (T 0, 10, .inl af8)), (a9, .inl (T 0, 10, .inl af9)), (a10, .inl (T 0, 10, .inl af10))] (q_s_allCustomS_f T fa lz a0 cn idl jf bl an am al ao au a1 a2 a3 a4 a5 a6 a7 a8 a9 a10 af1 af2 af3 af4 af5 af6 af7 af8 af9 af10) := by
  refine Ct.of (cc := cX5_passAllByCustom) (maxL := 7) (ret := (some .int)) (by decide) (Nat.le_of_ble_eq_true rfl) ?_
  intro p e s m args below meth c A ls hC hnm V hl
  obtain ⟨hx, hb, hr, hml, hown, hts, hlocks⟩ := id hC
  generalize hH : s.heap = H at V ⊢
  clear hH
  have hl : lv_has ls 7 [(0, .ref a0), (1, .int (nI cn)), (2, .int idl), (3, .int (nI jf)), (4, .int bl)] := hl
  generalize hlo : ([] : List Loc) = locs at V ⊢
  clear hlo
  refine lv_iconst (v := (nI 0)) hx hb dX5_passAllByCustom_0 (by decide +kernel) ?_
  refine lv_istore (lv' := [(5, .int (nI 0)), (0, .ref a0), (1, .int (nI cn)), (2, .int idl), (3, .int (nI jf)), (4, .int bl)]) hx hb dX5_passAllByCustom_1 hl (by decide) rfl (fun ls hl => ?_)
  refine lv_iconst (v := (nI 0)) hx hb dX5_passAllByCustom_3 (by decide +kernel) ?_
  refine lv_istore (lv' := [(6, .int (nI 0)), (5, .int (nI 0)), (0, .ref a0), (1, .int (nI cn)), (2, .int idl), (3, .int (nI jf)), (4, .int bl)]) hx hb dX5_passAllByCustom_4 hl (by decide) rfl (fun ls hl => ?_)
  have L_1 : ∀ (fu : Nat) (k6 : Nat) (x5 : Int32) (mv : Int32) (uv : Int32) (gb : Nat → Int32) (gc : Nat → Int32) (gd : Nat → Int32) (ge : Nat → Int32), k6 ≤ cn → (∀ i, i < an → gb i = csI an fa lz jf bl k6 (24 + i)) → (∀ i, i < an → gc i = csI an fa lz jf bl k6 (64 + i)) → cn - k6 < fu → ∀ (H : Heap) (locs : List Loc) (ls : Array Slot), gW D T A s [(a0, .inr (5, [.int (nI an), .int mv, .int al, .int ao, .int uv, .ref a1, .ref a2, .ref a3, .ref a4, .ref a5, .ref a6, .ref a7, .ref a8, .ref a9, .ref a10])), (a1, .inl (T 0, 10, .inl af1)), (a2, .inl (T 0, 10, .inl af2)), (a3, .inl (T 0, 10, .inl gb)), (a4, .inl (T 0, 10, .inl af4)), (a5, .inl (T 0, 10, .inl af5)), (a6, .inl (T 0, 10, .inl af6)), (a7, .inl (T 0, 10, .inl gc)), (a8, .inl (T 0, 10, .inl gd)), (a9, .inl (T 0, 10, .inl af9)), (a10, .inl (T 0, 10, .inl ge))] H locs → lv_has ls 7 [(6, .int (nI k6)), (5, .int x5), (0, .ref a0), (1, .int (nI cn)), (2, .int idl), (3, .int (nI jf)), (4, .int bl)] → W p l e (rmD 4 0 0) s m args below meth c H locs 0 0 (MQ below (gQ D A (q_s_allCustomS_f T fa lz a0 cn idl jf bl an am al ao au a1 a2 a3 a4 a5 a6 a7 a8 a9 a10 af1 af2 af3 af4 af5 af6 af7 af8 af9 af10)) args s 0 0 A) (F0 m 6 ls []) := by
    intro fu_6
    induction fu_6 with
    | zero => intro k6 x5 mv uv gb gc gd ge hk6 hgb hgc hmu; exact absurd hmu (Nat.not_lt_zero _)
    | succ fu_6 ih_6 =>
      intro k6 x5 mv uv gb gc gd ge hk6 hgb hgc hmu_6 H locs ls V hl
      refine lv_iload hx hb dX5_passAllByCustom_6 (lv_at hl 0 rfl) ?_
      refine lv_iload_n hx hb dX5_passAllByCustom_8 rfl (lv_at hl 3 rfl) ?_
      refine lv_icmp_ge (tgt := 31) hx hb dX5_passAllByCustom_9 (by decide) (fun c_2 => ?_) (fun c_2 => ?_)
      · skip
        have c_2 := b_le (by omega) (by omega) c_2
        refine lv_iload hx hb dX5_passAllByCustom_31 (lv_at hl 1 rfl) ?_
        exact g_iret (Qr := (q_s_allCustomS_f T fa lz a0 cn idl jf bl an am al ao au a1 a2 a3 a4 a5 a6 a7 a8 a9 a10 af1 af2 af3 af4 af5 af6 af7 af8 af9 af10)) hC V ⟨(Nat.le_of_ble_eq_true rfl), (Nat.le_of_ble_eq_true rfl)⟩ ⟨x5, uv, mv, gb, gc, gd, ge, rfl, rfl, (fun i hi => by rw [hgb i hi]; congr 2; omega), (fun i hi => by rw [hgc i hi]; congr 2; omega)⟩ dX5_passAllByCustom_33
      · skip
        have c_2 := b_nle (by omega) (by omega) c_2
        refine lv_iload hx hb dX5_passAllByCustom_12 (lv_at hl 1 rfl) ?_
        refine lv_aload_n hx hb dX5_passAllByCustom_14 rfl (lv_at hl 2 rfl) ?_
        refine lv_iload_n hx hb dX5_passAllByCustom_15 rfl (lv_at hl 4 rfl) ?_
        refine lv_iload_n hx hb dX5_passAllByCustom_16 rfl (lv_at hl 5 rfl) ?_
        refine lv_iload hx hb dX5_passAllByCustom_17 (lv_at hl 6 rfl) ?_
        refine g_callV (wr := []) (nA := 3) hC V hl.1 (s_byCustomS_f l D T (csI an fa lz jf bl k6) lz a0 idl jf bl an mv al ao uv a1 a2 a3 a4 a5 a6 a7 a8 a9 a10 af1 af2 gb af4 af5 af6 gc gd af9 ge h_n h_t (fun i hi => (h_s1 i hi).trans (csI_o h_n (by omega) (by omega) _).symm) (fun i hi => (h_s2 i hi).trans (csI_o h_n (by omega) (by omega) _).symm) hgb (fun i hi => (h_s4 i hi).trans (csI_o h_n (by omega) (by omega) _).symm) (fun i hi => (h_s5 i hi).trans (csI_o h_n (by omega) (by omega) _).symm) (fun i hi => (h_s6 i hi).trans (csI_o h_n (by omega) (by omega) _).symm) hgc (fun i hi => (h_s9 i hi).trans (csI_o h_n (by omega) (by omega) _).symm) (h_o.trans (csI_o h_n (by omega) (by omega) _).symm) (csI_mi h_a _) h_il h_jf) w_544 w_545 w_546 w_3 w_547 (by decide +kernel) rfl ⟨(Nat.le_of_ble_eq_true rfl), (Nat.le_of_ble_eq_true rfl)⟩ 0 (ci := 5) rfl rfl [0, 1, 2, 3, 4, 5, 6, 7, 8, 9, 10] [] rfl rfl rfl rfl (by decide) (Nat.le_of_ble_eq_true rfl) dX5_passAllByCustom_19 ⟨(Nat.le_of_ble_eq_true rfl), (Nat.le_of_ble_eq_true rfl)⟩ rfl (fun r w1 H locs hQ V => ?_)
        obtain ⟨z_3, u_4, g3_5, g7_6, g8_7, g10_8, rfl, rfl, f_9, f_10⟩ := hQ
        have V : gW D T A s [(a0, .inr (5, [.int (nI an), .int (mv + (nI 1)), .int al, .int ao, .int u_4, .ref a1, .ref a2, .ref a3, .ref a4, .ref a5, .ref a6, .ref a7, .ref a8, .ref a9, .ref a10])), (a1, .inl (T 0, 10, .inl af1)), (a2, .inl (T 0, 10, .inl af2)), (a3, .inl (T 0, 10, .inl g3_5)), (a4, .inl (T 0, 10, .inl af4)), (a5, .inl (T 0, 10, .inl af5)), (a6, .inl (T 0, 10, .inl af6)), (a7, .inl (T 0, 10, .inl g7_6)), (a8, .inl (T 0, 10, .inl g8_7)), (a9, .inl (T 0, 10, .inl af9)), (a10, .inl (T 0, 10, .inl g10_8))] H locs := V
        show W p l e _ s m args below meth c H locs _ _ _ (F0 m 22 ls [.int z_3, .int x5])
        refine lv_iadd hx hb dX5_passAllByCustom_22 ?_
        refine lv_istore (lv' := [(5, .int (x5 + z_3)), (6, .int (nI k6)), (0, .ref a0), (1, .int (nI cn)), (2, .int idl), (3, .int (nI jf)), (4, .int bl)]) hx hb dX5_passAllByCustom_23 hl (by decide) rfl (fun ls hl => ?_)
        refine lv_iinc (v := (nI (k6 + 1))) (lv' := [(6, .int (nI (k6 + 1))), (5, .int (x5 + z_3)), (0, .ref a0), (1, .int (nI cn)), (2, .int idl), (3, .int (nI jf)), (4, .int bl)]) hx hb dX5_passAllByCustom_25 hl (k := 1) rfl (nI_1 _) (by decide) rfl (fun ls hl => ?_)
        refine lv_goto (tgt := 6) hx hb dX5_passAllByCustom_28 (by decide) ?_
        exact ih_6 (k6 + 1) (x5 + z_3) (mv + (nI 1)) u_4 g3_5 g7_6 g8_7 g10_8 (by omega) (fun i hi => (f_9 i hi).trans (goF_24 h_n hi).symm) (fun i hi => (f_10 i hi).trans (goF_64 h_n hi).symm) (by omega) _ _ _ V (lv_sub hl [0, 1, 2, 3, 4, 5, 6] rfl)
  exact L_1 _ 0 (nI 0) am au af3 af7 af8 af10 (by omega) h_s3 h_s7 (Nat.lt_succ_self _) _ _ _ V (lv_sub hl [0, 1, 2, 3, 4, 5, 6] rfl)
