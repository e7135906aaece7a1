/-! HEATS behind the next MINUTE -/
theorem i_rot (h b c : Int32) : h + b - c = h + nI 0 - c + b := by
  rw [show h + nI 0 = h from Int32.add_zero h, Int32.sub_eq_add_neg, Int32.sub_eq_add_neg, Int32.add_assoc, Int32.add_assoc, Int32.add_comm b (-c)]
theorem hm_eq {n i : Nat} {f : Nat → Int32} {pl z : Int32} (h : z = ibf (f (24 + i) + nI 0 - f (14 + i) + bsF f pl i n)) : z = hNw n f pl (-1) (nI 0) i := by
  unfold hNw
  by_cases c : nI i = -1
  · rw [if_pos c]; exact h
  · rw [if_neg c]; exact h
theorem hb_eq {n i : Nat} {f : Nat → Int32} {pl x3 x2 b z : Int32} (e3 : x3 = f (24 + i)) (e2 : x2 = f (14 + i)) (eb : b = bsF f pl i n) (h : z = ibf (x3 + b - x2)) : z = hNw n f pl (-1) (nI 0) i := by
  refine hm_eq ?_
  rw [h, e3, e2, eb, i_rot]
abbrev wkP (n : Nat) (f : Nat → Int32) (s : Int32) (i : Nat) : Prop := ¬ hNw n f s (-1) (nI 0) i < f (34 + i) ∧ ¬ f (44 + i) < hNw n f s (-1) (nI 0) i
def payF (n : Nat) (f : Nat → Int32) (i : Nat) (s : Int32) : Int32 := (if wkP n f s i then nI 2 else nI 0) - (if bitP s i then nI 1 else nI 0)
theorem pf_21 {n i : Nat} {f : Nat → Int32} {s : Int32} (h : wkP n f s i) (b : bitP s i) : nI 1 = payF n f i s := by unfold payF; rw [if_pos h, if_pos b]; decide +kernel
theorem pf_20 {n i : Nat} {f : Nat → Int32} {s : Int32} (h : wkP n f s i) (b : ¬ bitP s i) : nI 2 = payF n f i s := by unfold payF; rw [if_pos h, if_neg b]; decide +kernel
theorem pf_01 {n i : Nat} {f : Nat → Int32} {s : Int32} (h : ¬ wkP n f s i) (b : bitP s i) : -1 = payF n f i s := by unfold payF; rw [if_neg h, if_pos b]; decide +kernel
theorem pf_00 {n i : Nat} {f : Nat → Int32} {s : Int32} (h : ¬ wkP n f s i) (b : ¬ bitP s i) : nI 0 = payF n f i s := by unfold payF; rw [if_neg h, if_neg b]; decide +kernel
/-! who is selfish -/
def slP (n : Nat) (f : Nat → Int32) (s : Int32) : Prop := ∀ i, i < n → ¬ payF n f i s < payF n f i (s ^^^ (nI 1 <<< (nI i &&& 31)))
noncomputable def slG (n : Nat) (f : Nat → Int32) (k : Int32) : Nat → Nat → Int32 → Int32
  | 0, _, fd => if k = -1 then fd else -1
  | fu + 1, s, fd => @ite _ (slP n f (nI s)) (Classical.propDecidable _) (if fd = k then nI s else slG n f k fu (s + 1) (fd + nI 1)) (slG n f k fu (s + 1) fd)
theorem sl_n {n s N : Nat} {f : Nat → Int32} {k fd : Int32} (hs : s < N) (h : ¬ slP n f (nI s)) : slG n f k (N - s) s fd = slG n f k (N - (s + 1)) (s + 1) fd := by
  rw [show N - s = (N - (s + 1)) + 1 by omega]
  show @ite _ (slP n f (nI s)) (Classical.propDecidable _) _ _ = _
  rw [if_neg h]
theorem sl_y {n s N : Nat} {f : Nat → Int32} {k fd : Int32} (hs : s < N) (h : slP n f (nI s)) (hk : ¬ fd = k) : slG n f k (N - s) s fd = slG n f k (N - (s + 1)) (s + 1) (fd + nI 1) := by
  rw [show N - s = (N - (s + 1)) + 1 by omega]
  show @ite _ (slP n f (nI s)) (Classical.propDecidable _) (if fd = k then nI s else slG n f k (N - (s + 1)) (s + 1) (fd + nI 1)) _ = _
  rw [if_pos h, if_neg hk]
theorem sl_f {n s N : Nat} {f : Nat → Int32} {k fd : Int32} (hs : s < N) (h : slP n f (nI s)) (hk : fd = k) : slG n f k (N - s) s fd = nI s := by
  rw [show N - s = (N - (s + 1)) + 1 by omega]
  show @ite _ (slP n f (nI s)) (Classical.propDecidable _) (if fd = k then nI s else slG n f k (N - (s + 1)) (s + 1) (fd + nI 1)) _ = _
  rw [if_pos h, if_pos hk]
theorem sl_e {n s N : Nat} {f : Nat → Int32} {k fd : Int32} (hs : ¬ s < N) : slG n f k (N - s) s fd = if k = -1 then fd else -1 := by
  rw [show N - s = 0 by omega]; rfl
theorem sl_neg {n : Nat} {f : Nat → Int32} {k : Int32} (hk : k < -1) : ∀ fu s m, m + fu ≤ 5000 → slG n f k fu s (nI m) = -1
  | 0, s, m, _ => by
    show (if k = -1 then nI m else -1) = -1
    rw [if_neg (fun e => by rw [e] at hk; exact absurd hk (by decide +kernel))]
  | fu + 1, s, m, hm => by
    show @ite _ (slP n f (nI s)) (Classical.propDecidable _) (if nI m = k then nI s else slG n f k fu (s + 1) (nI m + nI 1)) (slG n f k fu (s + 1) (nI m)) = -1
    have hne : ¬ nI m = k := fun e => by
      rw [← e, Int32.lt_iff_toInt_lt, nI_toInt (by omega), show (-1 : Int32).toInt = -1 by decide +kernel] at hk
      omega
    by_cases c : slP n f (nI s)
    · rw [if_pos c, if_neg hne, nI_add]; exact sl_neg hk fu (s + 1) (m + 1) (by omega)
    · rw [if_neg c]; exact sl_neg hk fu (s + 1) m (by omega)
/-! what was seen -/
def comP (n : Nat) (f : Nat → Int32) (R : Nat → Int64) (s : Int32) : Prop := ∀ i, i < n → (hNw n f s (-1) (nI 0) i).toInt64 = R i
noncomputable def snC (n : Nat) (f : Nat → Int32) (R : Nat → Int64) : Nat → Int32
  | 0 => nI 0
  | s + 1 => @ite _ (comP n f R (nI s)) (Classical.propDecidable _) (snC n f R s + nI 1) (snC n f R s)
noncomputable def snY (n : Nat) (f : Nat → Int32) (R : Nat → Int64) : Nat → Int32
  | 0 => nI (2 ^ n - 1)
  | s + 1 => @ite _ (comP n f R (nI s)) (Classical.propDecidable _) (snY n f R s &&& nI s) (snY n f R s)
noncomputable def snN (n : Nat) (f : Nat → Int32) (R : Nat → Int64) : Nat → Int32
  | 0 => nI (2 ^ n - 1)
  | s + 1 => @ite _ (comP n f R (nI s)) (Classical.propDecidable _) (snN n f R s &&& (nI s ^^^ -1)) (snN n f R s)
noncomputable def snB (n : Nat) (f : Nat → Int32) (R : Nat → Int64) : Nat → Int32
  | 0 => nI 0
  | s + 1 => @ite _ (comP n f R (nI s)) (Classical.propDecidable _) (nI 1) (snB n f R s)
theorem sn_y {n s : Nat} {f : Nat → Int32} {R : Nat → Int64} (h : comP n f R (nI s)) : snC n f R s + nI 1 = snC n f R (s + 1) ∧ snY n f R s &&& nI s = snY n f R (s + 1) ∧ snN n f R s &&& (nI s ^^^ -1) = snN n f R (s + 1) ∧ nI 1 = snB n f R (s + 1) := ⟨(if_pos h).symm, (if_pos h).symm, (if_pos h).symm, (if_pos h).symm⟩
theorem sn_n {n s : Nat} {f : Nat → Int32} {R : Nat → Int64} (h : ¬ comP n f R (nI s)) : snC n f R s = snC n f R (s + 1) ∧ snY n f R s = snY n f R (s + 1) ∧ snN n f R s = snN n f R (s + 1) ∧ snB n f R s = snB n f R (s + 1) := ⟨(if_neg h).symm, (if_neg h).symm, (if_neg h).symm, (if_neg h).symm⟩
theorem sn_b {n : Nat} {f : Nat → Int32} {R : Nat → Int64} : ∀ s, s ≤ 2000 → (snB n f R s = nI 0 ∧ snC n f R s = nI 0) ∨ (snB n f R s = nI 1 ∧ ∃ m, 1 ≤ m ∧ m ≤ s ∧ snC n f R s = nI m)
  | 0, _ => Or.inl ⟨rfl, rfl⟩
  | s + 1, hs => by
    by_cases c : comP n f R (nI s)
    · obtain ⟨e1, -, -, e4⟩ := sn_y c
      refine Or.inr ⟨e4.symm, ?_⟩
      rw [← e1]
      rcases sn_b s (by omega) with ⟨-, q⟩ | ⟨-, m, m1, m2, q⟩
      · rw [q, nI_add]; exact ⟨0 + 1, by omega, by omega, rfl⟩
      · rw [q, nI_add]; exact ⟨m + 1, by omega, by omega, rfl⟩
    · obtain ⟨e1, -, -, e4⟩ := sn_n c
      rw [← e1, ← e4]
      rcases sn_b s (by omega) with q | ⟨q, m, m1, m2, q2⟩
      · exact Or.inl q
      · exact Or.inr ⟨q, m, m1, by omega, q2⟩
theorem sn_0 {n s : Nat} {f : Nat → Int32} {R : Nat → Int64} (hs : s ≤ 2000) : snB n f R s = 0 ↔ snC n f R s = 0 := by
  rcases sn_b (n := n) (f := f) (R := R) s hs with ⟨a, b⟩ | ⟨a, m, m1, m2, b⟩
  · rw [a, b]
  · rw [a, b]
    constructor
    · intro q; exact absurd q (by decide +kernel)
    · intro q
      have := b_eq (a := m) (b := 0) (by omega) (by decide) q
      omega
/-- why a row isn't one of what was seen -/
def rsW (n : Nat) (fq fm : Nat → Int32) (row : Int32) : Int32 := if rowR fq row = nI 0 then (if fm row.toNatClampNeg = nI n then nI 0 else -7) else rowR fq row
theorem rw_r {n : Nat} {fq fm : Nat → Int32} {row z : Int32} (h : z = rowR fq row) (hz : ¬ z = 0) : z = rsW n fq fm row := by
  unfold rsW; rw [if_neg (show ¬ rowR fq row = nI 0 from fun q => hz (h.trans q))]; exact h
theorem rw_7 {n k z : Nat} {fq fm : Nat → Int32} {row : Int32} (h : rowR fq row = nI 0) (e : row = nI k) (hk : k < 4) (ez : fm k = nI z) (hz : z ≤ 40) (hn : n ≤ 10) (hne : z ≠ n) : -7 = rsW n fq fm row := by
  unfold rsW; rw [if_pos h, e, nI_clamp (by omega), ez, if_neg (fun q => hne (b_eq (by omega) (by omega) q))]
theorem rw_y {n k z : Nat} {fq fm : Nat → Int32} {row : Int32} (h : rowR fq row = nI 0) (e : row = nI k) (hk : k < 4) (ez : fm k = nI z) (he : z = n) : nI 0 = rsW n fq fm row := by
  unfold rsW; rw [if_pos h, e, nI_clamp (by omega), ez, he, if_pos rfl]
noncomputable def seA (n : Nat) (f fq fm : Nat → Int32) (fn : Nat → Int64) (row : Int32) : Int32 := if rsW n fq fm row = nI 0 then snC n f (fun i => fn (40 * row.toNatClampNeg + i)) (2 ^ n) else rsW n fq fm row
noncomputable def suA (n : Nat) (f fq fm : Nat → Int32) (fn : Nat → Int64) (row pu : Int32) : Int32 := if rsW n fq fm row = nI 0 then (if snC n f (fun i => fn (40 * row.toNatClampNeg + i)) (2 ^ n) = 0 then nI 0 else if pu = 0 then snN n f (fun i => fn (40 * row.toNatClampNeg + i)) (2 ^ n) else snY n f (fun i => fn (40 * row.toNatClampNeg + i)) (2 ^ n)) else rsW n fq fm row
theorem se_n {n : Nat} {f fq fm : Nat → Int32} {fn : Nat → Int64} {row z : Int32} (h : z = rsW n fq fm row) (hz : ¬ z = 0) : z = seA n f fq fm fn row := by unfold seA; rw [if_neg (show ¬ rsW n fq fm row = nI 0 from fun q => hz (h.trans q))]; exact h
theorem se_y {n k : Nat} {f fq fm : Nat → Int32} {fn : Nat → Int64} {row : Int32} (h : nI 0 = rsW n fq fm row) (e : row = nI k) (hk : k < 4) : snC n f (fun i => fn (40 * k + i)) (2 ^ n) = seA n f fq fm fn row := by unfold seA; rw [if_pos h.symm]; subst e; rw [nI_clamp (by omega)]
theorem su_n {n : Nat} {f fq fm : Nat → Int32} {fn : Nat → Int64} {row pu z : Int32} (h : z = rsW n fq fm row) (hz : ¬ z = 0) : z = suA n f fq fm fn row pu := by unfold suA; rw [if_neg (show ¬ rsW n fq fm row = nI 0 from fun q => hz (h.trans q))]; exact h
theorem su_0 {n k : Nat} {f fq fm : Nat → Int32} {fn : Nat → Int64} {row pu : Int32} (h : nI 0 = rsW n fq fm row) (e : row = nI k) (hk : k < 4) (c : snC n f (fun i => fn (40 * k + i)) (2 ^ n) = 0) : nI 0 = suA n f fq fm fn row pu := by
  unfold suA; rw [if_pos h.symm]; subst e; rw [nI_clamp (by omega), if_pos c]
theorem su_y {n k : Nat} {f fq fm : Nat → Int32} {fn : Nat → Int64} {row pu : Int32} (h : nI 0 = rsW n fq fm row) (e : row = nI k) (hk : k < 4) (c : ¬ snC n f (fun i => fn (40 * k + i)) (2 ^ n) = 0) (hp : ¬ pu = 0) : snY n f (fun i => fn (40 * k + i)) (2 ^ n) = suA n f fq fm fn row pu := by
  unfold suA; rw [if_pos h.symm]; subst e; rw [nI_clamp (by omega), if_neg c, if_neg hp]
theorem su_m {n k : Nat} {f fq fm : Nat → Int32} {fn : Nat → Int64} {row pu : Int32} (h : nI 0 = rsW n fq fm row) (e : row = nI k) (hk : k < 4) (c : ¬ snC n f (fun i => fn (40 * k + i)) (2 ^ n) = 0) (hp : pu = 0) : snN n f (fun i => fn (40 * k + i)) (2 ^ n) = suA n f fq fm fn row pu := by
  unfold suA; rw [if_pos h.symm]; subst e; rw [nI_clamp (by omega), if_neg c, if_pos hp]
def SbS (n : Nat) (f : Nat → Int32) (s : Int32) (k : Nat) (b : Int32) : Prop := (b = 0 → ¬ slP n f s) ∧ (¬ b = 0 → ∀ i, i < k → ¬ payF n f i s < payF n f i (s ^^^ (nI 1 <<< (nI i &&& 31))))
theorem sb_i {n : Nat} {f : Nat → Int32} {s : Int32} : SbS n f s 0 (nI 1) := ⟨fun q => absurd q (by decide +kernel), fun _ i h => absurd h (Nat.not_lt_zero _)⟩
theorem sb_0 {n k k' : Nat} {f : Nat → Int32} {s : Int32} (hk : k < n) (h : payF n f k s < payF n f k (s ^^^ (nI 1 <<< (nI k &&& 31)))) : SbS n f s k' (nI 0) := ⟨fun _ q => q k hk h, fun q => absurd rfl q⟩
theorem sb_s {n k : Nat} {f : Nat → Int32} {s b : Int32} (H : SbS n f s k b) (hb : ¬ b = 0) (h : ¬ payF n f k s < payF n f k (s ^^^ (nI 1 <<< (nI k &&& 31)))) : SbS n f s (k + 1) (nI 1) := by
  refine ⟨fun q => absurd q (by decide +kernel), fun _ i hi => ?_⟩
  by_cases c : i = k
  · rw [c]; exact h
  · exact H.2 hb i (by omega)
theorem sb_e {n k : Nat} {f : Nat → Int32} {s b : Int32} (H : SbS n f s k b) (hb : ¬ b = 0) (hk : n ≤ k) : slP n f s := fun i hi => H.2 hb i (by omega)
def CbS (n : Nat) (f : Nat → Int32) (R : Nat → Int64) (s : Int32) (k : Nat) (b : Int32) : Prop := (b = 0 → ¬ comP n f R s) ∧ (¬ b = 0 → ∀ i, i < k → (hNw n f s (-1) (nI 0) i).toInt64 = R i)
theorem cb_i {n : Nat} {f : Nat → Int32} {R : Nat → Int64} {s : Int32} : CbS n f R s 0 (nI 1) := ⟨fun q => absurd q (by decide +kernel), fun _ i h => absurd h (Nat.not_lt_zero _)⟩
theorem cb_0 {n k k' : Nat} {f : Nat → Int32} {R : Nat → Int64} {s : Int32} (hk : k < n) (h : ¬ (hNw n f s (-1) (nI 0) k).toInt64 = R k) : CbS n f R s k' (nI 0) := ⟨fun _ q => h (q k hk), fun q => absurd rfl q⟩
theorem cb_s {n k : Nat} {f : Nat → Int32} {R : Nat → Int64} {s b : Int32} (H : CbS n f R s k b) (hb : ¬ b = 0) (h : (hNw n f s (-1) (nI 0) k).toInt64 = R k) : CbS n f R s (k + 1) (nI 1) := by
  refine ⟨fun q => absurd q (by decide +kernel), fun _ i hi => ?_⟩
  by_cases c : i = k
  · rw [c]; exact h
  · exact H.2 hb i (by omega)
theorem cb_e {n k : Nat} {f : Nat → Int32} {R : Nat → Int64} {s b : Int32} (H : CbS n f R s k b) (hb : ¬ b = 0) (hk : n ≤ k) : comP n f R s := fun i hi => H.2 hb i (by omega)

def q_s_heatBehind_f (T : Nat → ClassId) (fa : Nat → Int32) (a0 : Nat) (j : Nat) (pl : Int32) (an : Nat) (am : Int32) (al : Int32) (ao : Int32) (au : Int32) (a1 : Nat) (a2 : Nat) (a3 : Nat) (a4 : Nat) (a5 : Nat) (a6 : Nat) (a7 : Nat) (a8 : Nat) (a9 : Nat) (a10 : Nat) (af1 : Nat → Int32) (af2 : Nat → Int32) (af3 : Nat → Int32) (af9 : Nat → Int32) : Option Value → va_W → Prop := fun rr ww => (∃ (z : Int32), rr = some (.int z) ∧ ww = [(a0, .inr (5, [.int (nI an), .int am, .int al, .int ao, .int au, .ref a1, .ref a2, .ref a3, .ref a4, .ref a5, .ref a6, .ref a7, .ref a8, .ref a9, .ref a10])), (a1, .inl (T 0, 10, .inl af1)), (a2, .inl (T 0, 10, .inl af2)), (a3, .inl (T 0, 10, .inl af3)), (a9, .inl (T 0, 10, .inl af9))] ∧ z = hNw an fa pl (-1) (nI 0) j)
set_option maxHeartbeats 4000000 in
set_option maxRecDepth 100000 in
theorem s_heatBehind_f (l : Launch) (D : va_G) (T : Nat → ClassId) (fa : Nat → Int32) (a0 : Nat) (j : Nat) (pl : Int32) (an : Nat) (am : Int32) (al : Int32) (ao : Int32) (au : Int32) (a1 : Nat) (a2 : Nat) (a3 : Nat) (a4 : Nat) (a5 : Nat) (a6 : Nat) (a7 : Nat) (a8 : Nat) (a9 : Nat) (a10 : Nat) (af1 : Nat → Int32) (af2 : Nat → Int32) (af3 : Nat → Int32) (af9 : Nat → Int32) (h_n : an ≤ 10) (h_j : j < an) (h_s1 : ∀ i, i < an → af1 i = fa (4 + i)) (h_s2 : ∀ i, i < an → af2 i = fa (14 + i)) (h_s3 : ∀ i, i < an → af3 i = fa (24 + i)) (h_s9 : ∀ i, i < an → af9 i = fa (84 + i)) : Ct l yX5_heatBehind cX5_heatBehind 3 (some .int) 2 0 0 D T [.ref a0, .int (nI j), .int pl] [(a0, .inr (5, [.int (nI an), .int am, .int al, .int ao, .int au, .ref a1, .ref a2, .ref a3, .ref a4, .ref a5, .ref a6, .ref a7, .ref a8, .ref a9, .ref a10])), (a1, .inl (T 0, 10, .inl af1)), (a2, .inl (T 0, 10, .inl af2)), (a3, .inl (T 0, 10, .inl af3)), (a9, .inl (T 0, 10, .inl af9))] (q_s_heatBehind_f T fa a0 j pl an am al ao au a1 a2 a3 a4 a5 a6 a7 a8 a9 a10 af1 af2 af3 af9) := by
  refine Ct.of (cc := cX5_heatBehind) (maxL := 3) (ret := (some .int)) (by decide) (Nat.le_of_ble_eq_true rfl) ?_
  intro p e s m args below meth c A ls hC hnm V hl
  obtain ⟨hx, hb, hr, hml, hown, hts, hlocks⟩ := id hC
  generalize hH : s.heap = H at V ⊢
  clear hH
  have hl : lv_has ls 3 [(0, .ref a0), (1, .int (nI j)), (2, .int pl)] := hl
  generalize hlo : ([] : List Loc) = locs at V ⊢
  clear hlo
  refine lv_aload_n hx hb dX5_heatBehind_0 rfl (lv_at hl 0 rfl) ?_
  refine g_get hC V (ci := 5) uwX5 0 rfl rfl 7 (by decide) w_62 rfl rfl dX5_heatBehind_1 ?_
  refine lv_iload_n hx hb dX5_heatBehind_4 rfl (lv_at hl 1 rfl) ?_
  refine g_iald hC V 3 rfl (vp_in_nI (by omega) (by omega)) (v := (af3 j)) (congrArg _ (nI_clamp (by omega))) dX5_heatBehind_5 ?_
  refine lv_aload_n hx hb dX5_heatBehind_6 rfl (lv_at hl 0 rfl) ?_
  refine lv_iload_n hx hb dX5_heatBehind_7 rfl (lv_at hl 1 rfl) ?_
  refine lv_iload_n hx hb dX5_heatBehind_8 rfl (lv_at hl 2 rfl) ?_
  refine g_callVU (nA := 2) hC V hl.1 (s_blastOn_f l D T fa a0 j pl an am al ao au a1 a2 a3 a4 a5 a6 a7 a8 a9 a10 af1 af9 (by first | assumption | omega) (by first | assumption | omega) (by first | assumption | omega)) w_699 w_700 w_701 w_3 w_702 (by decide +kernel) rfl ⟨(Nat.le_of_ble_eq_true rfl), (Nat.le_of_ble_eq_true rfl)⟩ 0 (ci := 5) rfl rfl [0, 1, 4] rfl rfl (Nat.le_of_ble_eq_true rfl) dX5_heatBehind_9 ⟨(Nat.le_of_ble_eq_true rfl), (Nat.le_of_ble_eq_true rfl)⟩ rfl (fun r w1 H locs hQ V => ?_)
  obtain ⟨z_1, rfl, rfl, f_2⟩ := hQ
  have V : gW D T A s [(a0, .inr (5, [.int (nI an), .int am, .int al, .int ao, .int au, .ref a1, .ref a2, .ref a3, .ref a4, .ref a5, .ref a6, .ref a7, .ref a8, .ref a9, .ref a10])), (a1, .inl (T 0, 10, .inl af1)), (a2, .inl (T 0, 10, .inl af2)), (a3, .inl (T 0, 10, .inl af3)), (a9, .inl (T 0, 10, .inl af9))] H locs := V _ [0, 0, 2] rfl rfl rfl (by decide +kernel) rfl
  show W p l e _ s m args below meth c H locs _ _ _ (F0 m 12 ls [.int z_1, .int (af3 j)])
  refine lv_iadd hx hb dX5_heatBehind_12 ?_
  refine lv_aload_n hx hb dX5_heatBehind_13 rfl (lv_at hl 0 rfl) ?_
  refine g_get hC V (ci := 5) uwX5 0 rfl rfl 6 (by decide) w_56 rfl rfl dX5_heatBehind_14 ?_
  refine lv_iload_n hx hb dX5_heatBehind_17 rfl (lv_at hl 1 rfl) ?_
  refine g_iald hC V 2 rfl (vp_in_nI (by omega) (by omega)) (v := (af2 j)) (congrArg _ (nI_clamp (by omega))) dX5_heatBehind_18 ?_
  refine lv_isub hx hb dX5_heatBehind_19 ?_
  refine g_callSNU (nA := 1) (host := RX7) hC V hl.1 (c_bounded_f l D T (((af3 j) + z_1) - (af2 j))) w_489 (List.mem_of_getElem? (i := 14) rfl) w_2 w_488 (by decide +kernel) rfl ⟨(Nat.le_of_ble_eq_true rfl), (Nat.le_of_ble_eq_true rfl)⟩ [] rfl rfl (Nat.le_of_ble_eq_true rfl) dX5_heatBehind_20 ⟨(Nat.le_of_ble_eq_true rfl), (Nat.le_of_ble_eq_true rfl)⟩ rfl (fun r w1 H locs hQ V => ?_)
  obtain ⟨z_3, rfl, rfl, f_4⟩ := hQ
  have V : gW D T A s [(a0, .inr (5, [.int (nI an), .int am, .int al, .int ao, .int au, .ref a1, .ref a2, .ref a3, .ref a4, .ref a5, .ref a6, .ref a7, .ref a8, .ref a9, .ref a10])), (a1, .inl (T 0, 10, .inl af1)), (a2, .inl (T 0, 10, .inl af2)), (a3, .inl (T 0, 10, .inl af3)), (a9, .inl (T 0, 10, .inl af9))] H locs := V _ [] rfl rfl rfl (by decide +kernel) rfl
  show W p l e _ s m args below meth c H locs _ _ _ (F0 m 23 ls [.int z_3])
  exact g_iret (Qr := (q_s_heatBehind_f T fa a0 j pl an am al ao au a1 a2 a3 a4 a5 a6 a7 a8 a9 a10 af1 af2 af3 af9)) hC V ⟨(Nat.le_of_ble_eq_true rfl), (Nat.le_of_ble_eq_true rfl)⟩ ⟨z_3, rfl, rfl, (hb_eq (h_s3 j h_j) (h_s2 j h_j) f_2 f_4)⟩ dX5_heatBehind_23

def q_s_payOf_f (T : Nat → ClassId) (fa : Nat → Int32) (a0 : Nat) (j : Nat) (st : Int32) (an : Nat) (am : Int32) (al : Int32) (ao : Int32) (au : Int32) (a1 : Nat) (a2 : Nat) (a3 : Nat) (a4 : Nat) (a5 : Nat) (a6 : Nat) (a7 : Nat) (a8 : Nat) (a9 : Nat) (a10 : Nat) (af1 : Nat → Int32) (af2 : Nat → Int32) (af3 : Nat → Int32) (af4 : Nat → Int32) (af5 : Nat → Int32) (af9 : Nat → Int32) : Option Value → va_W → Prop := fun rr ww => (∃ (z : Int32), rr = some (.int z) ∧ ww = [(a0, .inr (5, [.int (nI an), .int am, .int al, .int ao, .int au, .ref a1, .ref a2, .ref a3, .ref a4, .ref a5, .ref a6, .ref a7, .ref a8, .ref a9, .ref a10])), (a1, .inl (T 0, 10, .inl af1)), (a2, .inl (T 0, 10, .inl af2)), (a3, .inl (T 0, 10, .inl af3)), (a4, .inl (T 0, 10, .inl af4)), (a5, .inl (T 0, 10, .inl af5)), (a9, .inl (T 0, 10, .inl af9))] ∧ z = payF an fa j st)
set_option maxHeartbeats 4000000 in
set_option maxRecDepth 100000 in
theorem s_payOf_f (l : Launch) (D : va_G) (T : Nat → ClassId) (fa : Nat → Int32) (a0 : Nat) (j : Nat) (st : Int32) (an : Nat) (am : Int32) (al : Int32) (ao : Int32) (au : Int32) (a1 : Nat) (a2 : Nat) (a3 : Nat) (a4 : Nat) (a5 : Nat) (a6 : Nat) (a7 : Nat) (a8 : Nat) (a9 : Nat) (a10 : Nat) (af1 : Nat → Int32) (af2 : Nat → Int32) (af3 : Nat → Int32) (af4 : Nat → Int32) (af5 : Nat → Int32) (af9 : Nat → Int32) (h_n : an ≤ 10) (h_j : j < an) (h_s1 : ∀ i, i < an → af1 i = fa (4 + i)) (h_s2 : ∀ i, i < an → af2 i = fa (14 + i)) (h_s3 : ∀ i, i < an → af3 i = fa (24 + i)) (h_s4 : ∀ i, i < an → af4 i = fa (34 + i)) (h_s5 : ∀ i, i < an → af5 i = fa (44 + i)) (h_s9 : ∀ i, i < an → af9 i = fa (84 + i)) : Ct l yX5_payOf cX5_payOf 4 (some .int) 3 0 0 D T [.ref a0, .int (nI j), .int st] [(a0, .inr (5, [.int (nI an), .int am, .int al, .int ao, .int au, .ref a1, .ref a2, .ref a3, .ref a4, .ref a5, .ref a6, .ref a7, .ref a8, .ref a9, .ref a10])), (a1, .inl (T 0, 10, .inl af1)), (a2, .inl (T 0, 10, .inl af2)), (a3, .inl (T 0, 10, .inl af3)), (a4, .inl (T 0, 10, .inl af4)), (a5, .inl (T 0, 10, .inl af5)), (a9, .inl (T 0, 10, .inl af9))] (q_s_payOf_f T fa a0 j st an am al ao au a1 a2 a3 a4 a5 a6 a7 a8 a9 a10 af1 af2 af3 af4 af5 af9) := by
  refine Ct.of (cc := cX5_payOf) (maxL := 4) (ret := (some .int)) (by decide) (Nat.le_of_ble_eq_true rfl) ?_
  intro p e s m args below meth c A ls hC hnm V hl
  obtain ⟨hx, hb, hr, hml, hown, hts, hlocks⟩ := id hC
  generalize hH : s.heap = H at V ⊢
  clear hH
  have hl : lv_has ls 4 [(0, .ref a0), (1, .int (nI j)), (2, .int st)] := hl
  generalize hlo : ([] : List Loc) = locs at V ⊢
  clear hlo
  refine lv_aload_n hx hb dX5_payOf_0 rfl (lv_at hl 0 rfl) ?_
  refine lv_iload_n hx hb dX5_payOf_1 rfl (lv_at hl 1 rfl) ?_
  refine lv_aload_n hx hb dX5_payOf_2 rfl (lv_at hl 0 rfl) ?_
  refine lv_iload_n hx hb dX5_payOf_3 rfl (lv_at hl 1 rfl) ?_
  refine lv_iload_n hx hb dX5_payOf_4 rfl (lv_at hl 2 rfl) ?_
  refine g_callVU (nA := 2) hC V hl.1 (s_heatBehind_f l D T fa a0 j st an am al ao au a1 a2 a3 a4 a5 a6 a7 a8 a9 a10 af1 af2 af3 af9 (by first | assumption | omega) (by first | assumption | omega) (by first | assumption | omega) (by first | assumption | omega) (by first | assumption | omega) (by first | assumption | omega)) w_695 w_696 w_697 w_3 w_698 (by decide +kernel) rfl ⟨(Nat.le_of_ble_eq_true rfl), (Nat.le_of_ble_eq_true rfl)⟩ 0 (ci := 5) rfl rfl [0, 1, 2, 3, 6] rfl rfl (Nat.le_of_ble_eq_true rfl) dX5_payOf_5 ⟨(Nat.le_of_ble_eq_true rfl), (Nat.le_of_ble_eq_true rfl)⟩ rfl (fun r w1 H locs hQ V => ?_)
  obtain ⟨z_1, rfl, rfl, f_2⟩ := hQ
  have V : gW D T A s [(a0, .inr (5, [.int (nI an), .int am, .int al, .int ao, .int au, .ref a1, .ref a2, .ref a3, .ref a4, .ref a5, .ref a6, .ref a7, .ref a8, .ref a9, .ref a10])), (a1, .inl (T 0, 10, .inl af1)), (a2, .inl (T 0, 10, .inl af2)), (a3, .inl (T 0, 10, .inl af3)), (a4, .inl (T 0, 10, .inl af4)), (a5, .inl (T 0, 10, .inl af5)), (a9, .inl (T 0, 10, .inl af9))] H locs := V _ [0, 0, 0, 0, 2] rfl rfl rfl (by decide +kernel) rfl
  show W p l e _ s m args below meth c H locs _ _ _ (F0 m 8 ls [.int z_1, .int (nI j), .ref a0])
  have hhb := f_2
  refine g_callVU (nA := 2) hC V hl.1 (s_isWorkableAt l D T a0 j z_1 an am al ao au a1 a2 a3 a4 a5 a6 a7 a8 a9 a10 af4 af5 (by first | assumption | omega)) w_478 w_479 w_480 w_3 w_481 (by decide +kernel) rfl ⟨(Nat.le_of_ble_eq_true rfl), (Nat.le_of_ble_eq_true rfl)⟩ 0 (ci := 5) rfl rfl [0, 4, 5] rfl rfl (Nat.le_of_ble_eq_true rfl) dX5_payOf_8 ⟨(Nat.le_of_ble_eq_true rfl), (Nat.le_of_ble_eq_true rfl)⟩ rfl (fun r w1 H locs hQ V => ?_)
  rcases hQ with ⟨rfl, rfl, f_3, f_4⟩ | ⟨rfl, rfl, f_5⟩
  · have V : gW D T A s [(a0, .inr (5, [.int (nI an), .int am, .int al, .int ao, .int au, .ref a1, .ref a2, .ref a3, .ref a4, .ref a5, .ref a6, .ref a7, .ref a8, .ref a9, .ref a10])), (a1, .inl (T 0, 10, .inl af1)), (a2, .inl (T 0, 10, .inl af2)), (a3, .inl (T 0, 10, .inl af3)), (a4, .inl (T 0, 10, .inl af4)), (a5, .inl (T 0, 10, .inl af5)), (a9, .inl (T 0, 10, .inl af9))] H locs := V _ [0, 3, 0] rfl rfl rfl (by decide +kernel) rfl
    show W p l e _ s m args below meth c H locs _ _ _ (F0 m 11 ls [.int (nI 1)])
    refine lv_if_eq (tgt := 18) hx hb dX5_payOf_11 (by decide) (fun c => absurd (show (nI 1) = 0 from c) (by decide +kernel)) (fun _ => ?_)
    refine lv_iconst (v := (nI 2)) hx hb dX5_payOf_14 (by decide +kernel) ?_
    refine lv_goto (tgt := 19) hx hb dX5_payOf_15 (by decide) ?_
    refine lv_istore_n (lv' := [(3, .int (nI 2)), (0, .ref a0), (1, .int (nI j)), (2, .int st)]) hx hb dX5_payOf_19 rfl hl (by decide) rfl (fun ls hl => ?_)
    refine lv_iload_n hx hb dX5_payOf_20 rfl (lv_at hl 3 rfl) ?_
    refine lv_iload_n hx hb dX5_payOf_21 rfl (lv_at hl 2 rfl) ?_
    refine g_callSNU (nA := 2) (host := RX7) hC V hl.1 (c_isIn_f l D T st j) w_472 (List.mem_of_getElem? (i := 13) rfl) w_2 w_471 (by decide +kernel) rfl ⟨(Nat.le_of_ble_eq_true rfl), (Nat.le_of_ble_eq_true rfl)⟩ [] rfl rfl (Nat.le_of_ble_eq_true rfl) dX5_payOf_22 ⟨(Nat.le_of_ble_eq_true rfl), (Nat.le_of_ble_eq_true rfl)⟩ rfl (fun r w1 H locs hQ V => ?_)
    rcases hQ with ⟨rfl, rfl, f_6⟩ | ⟨rfl, rfl, f_7⟩
    · have V : gW D T A s [(a0, .inr (5, [.int (nI an), .int am, .int al, .int ao, .int au, .ref a1, .ref a2, .ref a3, .ref a4, .ref a5, .ref a6, .ref a7, .ref a8, .ref a9, .ref a10])), (a1, .inl (T 0, 10, .inl af1)), (a2, .inl (T 0, 10, .inl af2)), (a3, .inl (T 0, 10, .inl af3)), (a4, .inl (T 0, 10, .inl af4)), (a5, .inl (T 0, 10, .inl af5)), (a9, .inl (T 0, 10, .inl af9))] H locs := V _ [] rfl rfl rfl (by decide +kernel) rfl
      show W p l e _ s m args below meth c H locs _ _ _ (F0 m 25 ls [.int (nI 1)])
      refine lv_if_eq (tgt := 34) hx hb dX5_payOf_25 (by decide) (fun c => absurd (show (nI 1) = 0 from c) (by decide +kernel)) (fun _ => ?_)
      refine lv_iload_n hx hb dX5_payOf_28 rfl (lv_at hl 0 rfl) ?_
      refine lv_iconst (v := (nI 1)) hx hb dX5_payOf_29 (by decide +kernel) ?_
      refine lv_isub hx hb dX5_payOf_30 ?_
      refine g_vi (y := (nI 1)) (by decide +kernel) ?_
      refine lv_goto (tgt := 35) hx hb dX5_payOf_31 (by decide) ?_
      exact g_iret (Qr := (q_s_payOf_f T fa a0 j st an am al ao au a1 a2 a3 a4 a5 a6 a7 a8 a9 a10 af1 af2 af3 af4 af5 af9)) hC V ⟨(Nat.le_of_ble_eq_true rfl), (Nat.le_of_ble_eq_true rfl)⟩ ⟨(nI 1), rfl, rfl, (pf_21 ⟨by rw [← hhb, ← h_s4 j h_j]; exact f_3, by rw [← hhb, ← h_s5 j h_j]; exact f_4⟩ f_6)⟩ dX5_payOf_35
    · have V : gW D T A s [(a0, .inr (5, [.int (nI an), .int am, .int al, .int ao, .int au, .ref a1, .ref a2, .ref a3, .ref a4, .ref a5, .ref a6, .ref a7, .ref a8, .ref a9, .ref a10])), (a1, .inl (T 0, 10, .inl af1)), (a2, .inl (T 0, 10, .inl af2)), (a3, .inl (T 0, 10, .inl af3)), (a4, .inl (T 0, 10, .inl af4)), (a5, .inl (T 0, 10, .inl af5)), (a9, .inl (T 0, 10, .inl af9))] H locs := V _ [] rfl rfl rfl (by decide +kernel) rfl
      show W p l e _ s m args below meth c H locs _ _ _ (F0 m 25 ls [.int (nI 0)])
      refine lv_if_eq (tgt := 34) hx hb dX5_payOf_25 (by decide) (fun _ => ?_) (fun c => absurd (show (nI 0) = 0 by decide +kernel) c)
      refine lv_iload_n hx hb dX5_payOf_34 rfl (lv_at hl 0 rfl) ?_
      exact g_iret (Qr := (q_s_payOf_f T fa a0 j st an am al ao au a1 a2 a3 a4 a5 a6 a7 a8 a9 a10 af1 af2 af3 af4 af5 af9)) hC V ⟨(Nat.le_of_ble_eq_true rfl), (Nat.le_of_ble_eq_true rfl)⟩ ⟨(nI 2), rfl, rfl, (pf_20 ⟨by rw [← hhb, ← h_s4 j h_j]; exact f_3, by rw [← hhb, ← h_s5 j h_j]; exact f_4⟩ f_7)⟩ dX5_payOf_35
  · have V : gW D T A s [(a0, .inr (5, [.int (nI an), .int am, .int al, .int ao, .int au, .ref a1, .ref a2, .ref a3, .ref a4, .ref a5, .ref a6, .ref a7, .ref a8, .ref a9, .ref a10])), (a1, .inl (T 0, 10, .inl af1)), (a2, .inl (T 0, 10, .inl af2)), (a3, .inl (T 0, 10, .inl af3)), (a4, .inl (T 0, 10, .inl af4)), (a5, .inl (T 0, 10, .inl af5)), (a9, .inl (T 0, 10, .inl af9))] H locs := V _ [0, 3, 0] rfl rfl rfl (by decide +kernel) rfl
    show W p l e _ s m args below meth c H locs _ _ _ (F0 m 11 ls [.int (nI 0)])
    refine lv_if_eq (tgt := 18) hx hb dX5_payOf_11 (by decide) (fun _ => ?_) (fun c => absurd (show (nI 0) = 0 by decide +kernel) c)
    refine lv_iconst (v := (nI 0)) hx hb dX5_payOf_18 (by decide +kernel) ?_
    refine lv_istore_n (lv' := [(3, .int (nI 0)), (0, .ref a0), (1, .int (nI j)), (2, .int st)]) hx hb dX5_payOf_19 rfl hl (by decide) rfl (fun ls hl => ?_)
    refine lv_iload_n hx hb dX5_payOf_20 rfl (lv_at hl 3 rfl) ?_
    refine lv_iload_n hx hb dX5_payOf_21 rfl (lv_at hl 2 rfl) ?_
    refine g_callSNU (nA := 2) (host := RX7) hC V hl.1 (c_isIn_f l D T st j) w_472 (List.mem_of_getElem? (i := 13) rfl) w_2 w_471 (by decide +kernel) rfl ⟨(Nat.le_of_ble_eq_true rfl), (Nat.le_of_ble_eq_true rfl)⟩ [] rfl rfl (Nat.le_of_ble_eq_true rfl) dX5_payOf_22 ⟨(Nat.le_of_ble_eq_true rfl), (Nat.le_of_ble_eq_true rfl)⟩ rfl (fun r w1 H locs hQ V => ?_)
    rcases hQ with ⟨rfl, rfl, f_8⟩ | ⟨rfl, rfl, f_9⟩
    · have V : gW D T A s [(a0, .inr (5, [.int (nI an), .int am, .int al, .int ao, .int au, .ref a1, .ref a2, .ref a3, .ref a4, .ref a5, .ref a6, .ref a7, .ref a8, .ref a9, .ref a10])), (a1, .inl (T 0, 10, .inl af1)), (a2, .inl (T 0, 10, .inl af2)), (a3, .inl (T 0, 10, .inl af3)), (a4, .inl (T 0, 10, .inl af4)), (a5, .inl (T 0, 10, .inl af5)), (a9, .inl (T 0, 10, .inl af9))] H locs := V _ [] rfl rfl rfl (by decide +kernel) rfl
      show W p l e _ s m args below meth c H locs _ _ _ (F0 m 25 ls [.int (nI 1)])
      refine lv_if_eq (tgt := 34) hx hb dX5_payOf_25 (by decide) (fun c => absurd (show (nI 1) = 0 from c) (by decide +kernel)) (fun _ => ?_)
      refine lv_iload_n hx hb dX5_payOf_28 rfl (lv_at hl 0 rfl) ?_
      refine lv_iconst (v := (nI 1)) hx hb dX5_payOf_29 (by decide +kernel) ?_
      refine lv_isub hx hb dX5_payOf_30 ?_
      refine g_vi (y := (-1)) (by decide +kernel) ?_
      refine lv_goto (tgt := 35) hx hb dX5_payOf_31 (by decide) ?_
      exact g_iret (Qr := (q_s_payOf_f T fa a0 j st an am al ao au a1 a2 a3 a4 a5 a6 a7 a8 a9 a10 af1 af2 af3 af4 af5 af9)) hC V ⟨(Nat.le_of_ble_eq_true rfl), (Nat.le_of_ble_eq_true rfl)⟩ ⟨(-1), rfl, rfl, (pf_01 (fun q => f_5.elim (fun r => q.1 (by rw [← hhb, ← h_s4 j h_j]; exact r)) (fun r => q.2 (by rw [← hhb, ← h_s5 j h_j]; exact r))) f_8)⟩ dX5_payOf_35
    · have V : gW D T A s [(a0, .inr (5, [.int (nI an), .int am, .int al, .int ao, .int au, .ref a1, .ref a2, .ref a3, .ref a4, .ref a5, .ref a6, .ref a7, .ref a8, .ref a9, .ref a10])), (a1, .inl (T 0, 10, .inl af1)), (a2, .inl (T 0, 10, .inl af2)), (a3, .inl (T 0, 10, .inl af3)), (a4, .inl (T 0, 10, .inl af4)), (a5, .inl (T 0, 10, .inl af5)), (a9, .inl (T 0, 10, .inl af9))] H locs := V _ [] rfl rfl rfl (by decide +kernel) rfl
      show W p l e _ s m args below meth c H locs _ _ _ (F0 m 25 ls [.int (nI 0)])
      refine lv_if_eq (tgt := 34) hx hb dX5_payOf_25 (by decide) (fun _ => ?_) (fun c => absurd (show (nI 0) = 0 by decide +kernel) c)
      refine lv_iload_n hx hb dX5_payOf_34 rfl (lv_at hl 0 rfl) ?_
      exact g_iret (Qr := (q_s_payOf_f T fa a0 j st an am al ao au a1 a2 a3 a4 a5 a6 a7 a8 a9 a10 af1 af2 af3 af4 af5 af9)) hC V ⟨(Nat.le_of_ble_eq_true rfl), (Nat.le_of_ble_eq_true rfl)⟩ ⟨(nI 0), rfl, rfl, (pf_00 (fun q => f_5.elim (fun r => q.1 (by rw [← hhb, ← h_s4 j h_j]; exact r)) (fun r => q.2 (by rw [← hhb, ← h_s5 j h_j]; exact r))) f_9)⟩ dX5_payOf_35

def q_s_isSelfish_f (T : Nat → ClassId) (fa : Nat → Int32) (a0 : Nat) (st : Int32) (an : Nat) (am : Int32) (al : Int32) (ao : Int32) (au : Int32) (a1 : Nat) (a2 : Nat) (a3 : Nat) (a4 : Nat) (a5 : Nat) (a6 : Nat) (a7 : Nat) (a8 : Nat) (a9 : Nat) (a10 : Nat) (af1 : Nat → Int32) (af2 : Nat → Int32) (af3 : Nat → Int32) (af4 : Nat → Int32) (af5 : Nat → Int32) (af9 : Nat → Int32) : Option Value → va_W → Prop := fun rr ww => (rr = some (.int (nI 1)) ∧ ww = [(a0, .inr (5, [.int (nI an), .int am, .int al, .int ao, .int au, .ref a1, .ref a2, .ref a3, .ref a4, .ref a5, .ref a6, .ref a7, .ref a8, .ref a9, .ref a10])), (a1, .inl (T 0, 10, .inl af1)), (a2, .inl (T 0, 10, .inl af2)), (a3, .inl (T 0, 10, .inl af3)), (a4, .inl (T 0, 10, .inl af4)), (a5, .inl (T 0, 10, .inl af5)), (a9, .inl (T 0, 10, .inl af9))] ∧ slP an fa st) ∨ (rr = some (.int (nI 0)) ∧ ww = [(a0, .inr (5, [.int (nI an), .int am, .int al, .int ao, .int au, .ref a1, .ref a2, .ref a3, .ref a4, .ref a5, .ref a6, .ref a7, .ref a8, .ref a9, .ref a10])), (a1, .inl (T 0, 10, .inl af1)), (a2, .inl (T 0, 10, .inl af2)), (a3, .inl (T 0, 10, .inl af3)), (a4, .inl (T 0, 10, .inl af4)), (a5, .inl (T 0, 10, .inl af5)), (a9, .inl (T 0, 10, .inl af9))] ∧ ¬ slP an fa st)
set_option maxHeartbeats 4000000 in
set_option maxRecDepth 100000 in
theorem s_isSelfish_f (l : Launch) (D : va_G) (T : Nat → ClassId) (fa : Nat → Int32) (a0 : Nat) (st : Int32) (an : Nat) (am : Int32) (al : Int32) (ao : Int32) (au : Int32) (a1 : Nat) (a2 : Nat) (a3 : Nat) (a4 : Nat) (a5 : Nat) (a6 : Nat) (a7 : Nat) (a8 : Nat) (a9 : Nat) (a10 : Nat) (af1 : Nat → Int32) (af2 : Nat → Int32) (af3 : Nat → Int32) (af4 : Nat → Int32) (af5 : Nat → Int32) (af9 : Nat → Int32) (h_n : an ≤ 10) (h_s1 : ∀ i, i < an → af1 i = fa (4 + i)) (h_s2 : ∀ i, i < an → af2 i = fa (14 + i)) (h_s3 : ∀ i, i < an → af3 i = fa (24 + i)) (h_s4 : ∀ i, i < an → af4 i = fa (34 + i)) (h_s5 : ∀ i, i < an → af5 i = fa (44 + i)) (h_s9 : ∀ i, i < an → af9 i = fa (84 + i)) : Ct l yX5_isSelfish cX5_isSelfish 3 (some .boolean) 4 0 0 D T [.ref a0, .int st] [(a0, .inr (5, [.int (nI an), .int am, .int al, .int ao, .int au, .ref a1, .ref a2, .ref a3, .ref a4, .ref a5, .ref a6, .ref a7, .ref a8, .ref a9, .ref a10])), (a1, .inl (T 0, 10, .inl af1)), (a2, .inl (T 0, 10, .inl af2)), (a3, .inl (T 0, 10, .inl af3)), (a4, .inl (T 0, 10, .inl af4)), (a5, .inl (T 0, 10, .inl af5)), (a9, .inl (T 0, 10, .inl af9))] (q_s_isSelfish_f T fa a0 st an am al ao au a1 a2 a3 a4 a5 a6 a7 a8 a9 a10 af1 af2 af3 af4 af5 af9) := by
  refine Ct.of (cc := cX5_isSelfish) (maxL := 3) (ret := (some .boolean)) (by decide) (Nat.le_of_ble_eq_true rfl) ?_
  intro p e s m args below meth c A ls hC hnm V hl
  obtain ⟨hx, hb, hr, hml, hown, hts, hlocks⟩ := id hC
  generalize hH : s.heap = H at V ⊢
  clear hH
  have hl : lv_has ls 3 [(0, .ref a0), (1, .int st)] := hl
  generalize hlo : ([] : List Loc) = locs at V ⊢
  clear hlo
  refine lv_iconst (v := (nI 0)) hx hb dX5_isSelfish_0 (by decide +kernel) ?_
  refine lv_istore_n (lv' := [(2, .int (nI 0)), (0, .ref a0), (1, .int st)]) hx hb dX5_isSelfish_1 rfl hl (by decide) rfl (fun ls hl => ?_)
  have L_1 : ∀ (fu : Nat) (k2 : Nat), k2 ≤ an → (∀ i, i < k2 → ¬ payF an fa i st < payF an fa i (st ^^^ (nI 1 <<< (nI i &&& 31)))) → an - k2 < fu → ∀ (H : Heap) (locs : List Loc) (ls : Array Slot), gW D T A s [(a0, .inr (5, [.int (nI an), .int am, .int al, .int ao, .int au, .ref a1, .ref a2, .ref a3, .ref a4, .ref a5, .ref a6, .ref a7, .ref a8, .ref a9, .ref a10])), (a1, .inl (T 0, 10, .inl af1)), (a2, .inl (T 0, 10, .inl af2)), (a3, .inl (T 0, 10, .inl af3)), (a4, .inl (T 0, 10, .inl af4)), (a5, .inl (T 0, 10, .inl af5)), (a9, .inl (T 0, 10, .inl af9))] H locs → lv_has ls 3 [(2, .int (nI k2)), (0, .ref a0), (1, .int st)] → W p l e (rmD 4 0 0) s m args below meth c H locs 0 0 (MQ below (gQ D A (q_s_isSelfish_f T fa a0 st an am al ao au a1 a2 a3 a4 a5 a6 a7 a8 a9 a10 af1 af2 af3 af4 af5 af9)) args s 0 0 A) (F0 m 2 ls []) := by
    intro fu_2
    induction fu_2 with
    | zero => intro k2 hk2 hal hmu; exact absurd hmu (Nat.not_lt_zero _)
    | succ fu_2 ih_2 =>
      intro k2 hk2 hal hmu_2 H locs ls V hl
      refine lv_iload_n hx hb dX5_isSelfish_2 rfl (lv_at hl 0 rfl) ?_
      refine lv_aload_n hx hb dX5_isSelfish_3 rfl (lv_at hl 1 rfl) ?_
      refine g_get hC V (ci := 5) uwX5 0 rfl rfl 0 (by decide) w_33 rfl rfl dX5_isSelfish_4 ?_
      refine lv_icmp_ge (tgt := 37) hx hb dX5_isSelfish_7 (by decide) (fun c_2 => ?_) (fun c_2 => ?_)
      · skip
        have c_2 := b_le (by omega) (by omega) c_2
        refine lv_iconst (v := (nI 1)) hx hb dX5_isSelfish_37 (by decide +kernel) ?_
        exact g_zret (Qr := (q_s_isSelfish_f T fa a0 st an am al ao au a1 a2 a3 a4 a5 a6 a7 a8 a9 a10 af1 af2 af3 af4 af5 af9)) hC V ⟨(Nat.le_of_ble_eq_true rfl), (Nat.le_of_ble_eq_true rfl)⟩ (by first | decide +kernel | exact rfl) (.inl ⟨rfl, rfl, (fun i hi => hal i (by omega))⟩) dX5_isSelfish_38
      · skip
        have c_2 := b_nle (by omega) (by omega) c_2
        refine lv_aload_n hx hb dX5_isSelfish_10 rfl (lv_at hl 1 rfl) ?_
        refine lv_iload_n hx hb dX5_isSelfish_11 rfl (lv_at hl 0 rfl) ?_
        refine lv_iload_n hx hb dX5_isSelfish_12 rfl (lv_at hl 2 rfl) ?_
        refine lv_iconst (v := (nI 1)) hx hb dX5_isSelfish_13 (by decide +kernel) ?_
        refine lv_iload_n hx hb dX5_isSelfish_14 rfl (lv_at hl 0 rfl) ?_
        refine lv_ishl hx hb dX5_isSelfish_15 ?_
        refine lv_ixor hx hb dX5_isSelfish_16 ?_
        refine g_callV (wr := []) (nA := 2) hC V hl.1 (s_payOf_f l D T fa a0 k2 (st ^^^ ((nI 1) <<< ((nI k2) &&& 31))) an am al ao au a1 a2 a3 a4 a5 a6 a7 a8 a9 a10 af1 af2 af3 af4 af5 af9 (by first | assumption | omega) (by first | assumption | omega) (by first | assumption | omega) (by first | assumption | omega) (by first | assumption | omega) (by first | assumption | omega) (by first | assumption | omega) (by first | assumption | omega)) w_691 w_693 w_s22 w_3 w_694 (by decide +kernel) rfl ⟨(Nat.le_of_ble_eq_true rfl), (Nat.le_of_ble_eq_true rfl)⟩ 0 (ci := 5) rfl rfl [0, 1, 2, 3, 4, 5, 6] [] rfl rfl rfl rfl (by decide) (Nat.le_of_ble_eq_true rfl) dX5_isSelfish_17 ⟨(Nat.le_of_ble_eq_true rfl), (Nat.le_of_ble_eq_true rfl)⟩ rfl (fun r w1 H locs hQ V => ?_)
        obtain ⟨z_3, rfl, rfl, f_4⟩ := hQ
        have V : gW D T A s [(a0, .inr (5, [.int (nI an), .int am, .int al, .int ao, .int au, .ref a1, .ref a2, .ref a3, .ref a4, .ref a5, .ref a6, .ref a7, .ref a8, .ref a9, .ref a10])), (a1, .inl (T 0, 10, .inl af1)), (a2, .inl (T 0, 10, .inl af2)), (a3, .inl (T 0, 10, .inl af3)), (a4, .inl (T 0, 10, .inl af4)), (a5, .inl (T 0, 10, .inl af5)), (a9, .inl (T 0, 10, .inl af9))] H locs := V
        show W p l e _ s m args below meth c H locs _ _ _ (F0 m 20 ls [.int z_3])
        refine lv_aload_n hx hb dX5_isSelfish_20 rfl (lv_at hl 1 rfl) ?_
        refine lv_iload_n hx hb dX5_isSelfish_21 rfl (lv_at hl 0 rfl) ?_
        refine lv_iload_n hx hb dX5_isSelfish_22 rfl (lv_at hl 2 rfl) ?_
        refine g_callV (wr := []) (nA := 2) hC V hl.1 (s_payOf_f l D T fa a0 k2 st an am al ao au a1 a2 a3 a4 a5 a6 a7 a8 a9 a10 af1 af2 af3 af4 af5 af9 (by first | assumption | omega) (by first | assumption | omega) (by first | assumption | omega) (by first | assumption | omega) (by first | assumption | omega) (by first | assumption | omega) (by first | assumption | omega) (by first | assumption | omega)) w_691 w_693 w_s22 w_3 w_694 (by decide +kernel) rfl ⟨(Nat.le_of_ble_eq_true rfl), (Nat.le_of_ble_eq_true rfl)⟩ 0 (ci := 5) rfl rfl [0, 1, 2, 3, 4, 5, 6] [] rfl rfl rfl rfl (by decide) (Nat.le_of_ble_eq_true rfl) dX5_isSelfish_23 ⟨(Nat.le_of_ble_eq_true rfl), (Nat.le_of_ble_eq_true rfl)⟩ rfl (fun r w1 H locs hQ V => ?_)
        obtain ⟨z_5, rfl, rfl, f_6⟩ := hQ
        have V : gW D T A s [(a0, .inr (5, [.int (nI an), .int am, .int al, .int ao, .int au, .ref a1, .ref a2, .ref a3, .ref a4, .ref a5, .ref a6, .ref a7, .ref a8, .ref a9, .ref a10])), (a1, .inl (T 0, 10, .inl af1)), (a2, .inl (T 0, 10, .inl af2)), (a3, .inl (T 0, 10, .inl af3)), (a4, .inl (T 0, 10, .inl af4)), (a5, .inl (T 0, 10, .inl af5)), (a9, .inl (T 0, 10, .inl af9))] H locs := V
        show W p l e _ s m args below meth c H locs _ _ _ (F0 m 26 ls [.int z_5, .int z_3])
        refine lv_icmp_le (tgt := 31) hx hb dX5_isSelfish_26 (by decide) (fun c_7 => ?_) (fun c_7 => ?_)
        · skip
          have hno : ¬ payF an fa k2 st < payF an fa k2 (st ^^^ (nI 1 <<< (nI k2 &&& 31))) := by rw [← f_4, ← f_6]; exact Int32.not_lt.mpr c_7
          refine lv_iinc (v := (nI (k2 + 1))) (lv' := [(2, .int (nI (k2 + 1))), (0, .ref a0), (1, .int st)]) hx hb dX5_isSelfish_31 hl (k := 0) rfl (nI_1 _) (by decide) rfl (fun ls hl => ?_)
          refine lv_goto (tgt := 2) hx hb dX5_isSelfish_34 (by decide) ?_
          exact ih_2 (k2 + 1) (by omega) (fun i hi => if h : i = k2 then by rw [h]; exact hno else hal i (by omega)) (by omega) _ _ _ V (lv_sub hl [0, 1, 2] rfl)
        · skip
          have hye : payF an fa k2 st < payF an fa k2 (st ^^^ (nI 1 <<< (nI k2 &&& 31))) := by rw [← f_4, ← f_6]; exact Int32.not_le.mp c_7
          refine lv_iconst (v := (nI 0)) hx hb dX5_isSelfish_29 (by decide +kernel) ?_
          exact g_zret (Qr := (q_s_isSelfish_f T fa a0 st an am al ao au a1 a2 a3 a4 a5 a6 a7 a8 a9 a10 af1 af2 af3 af4 af5 af9)) hC V ⟨(Nat.le_of_ble_eq_true rfl), (Nat.le_of_ble_eq_true rfl)⟩ (by first | decide +kernel | exact rfl) (.inr ⟨rfl, rfl, (fun q => q k2 (by omega) hye)⟩) dX5_isSelfish_30
  exact L_1 _ 0 (by omega) (fun i h => absurd h (Nat.not_lt_zero _)) (Nat.lt_succ_self _) _ _ _ V (lv_sub hl [0, 1, 2] rfl)

def q_x_selfish_f (T : Nat → ClassId) (nf6 : Nat → Int32) (nf7 : Nat → Int32) (fa : Nat → Int32) (o : Nat) (k : Int32) (n0 : Nat) (s0 : Nat) (im : Nat) (iz : Nat) (rw : Nat) (t0 : Nat) (u0 : Nat) (h0 : Nat) (y0 : Nat) (sv : Value) (nn : Nat) (nm : Int32) (nl : Int32) (no : Int32) (nu : Int32) (n1 : Nat) (n2 : Nat) (n3 : Nat) (n4 : Nat) (n5 : Nat) (n6 : Nat) (n7 : Nat) (n8 : Nat) (n9 : Nat) (n10 : Nat) (nf1 : Nat → Int32) (nf2 : Nat → Int32) (nf3 : Nat → Int32) (nf4 : Nat → Int32) (nf5 : Nat → Int32) (nf9 : Nat → Int32) : Option Value → va_W → Prop := fun rr ww => (∃ (z : Int32), rr = some (.int z) ∧ ww = [(o, .inr (7, [.ref n0, .ref s0, .ref im, .ref iz, .ref rw, .ref t0, .ref u0, .ref h0, .ref y0, sv])), (n0, .inr (5, [.int (nI nn), .int nm, .int nl, .int no, .int nu, .ref n1, .ref n2, .ref n3, .ref n4, .ref n5, .ref n6, .ref n7, .ref n8, .ref n9, .ref n10])), (n1, .inl (T 0, 10, .inl nf1)), (n2, .inl (T 0, 10, .inl nf2)), (n3, .inl (T 0, 10, .inl nf3)), (n4, .inl (T 0, 10, .inl nf4)), (n5, .inl (T 0, 10, .inl nf5)), (n9, .inl (T 0, 10, .inl nf9))] ∧ z = slG nn fa k (2 ^ nn) 0 (nI 0))
set_option maxHeartbeats 4000000 in
set_option maxRecDepth 100000 in
theorem x_selfish_f (l : Launch) (D : va_G) (T : Nat → ClassId) (nf6 : Nat → Int32) (nf7 : Nat → Int32) (fa : Nat → Int32) (o : Nat) (k : Int32) (n0 : Nat) (s0 : Nat) (im : Nat) (iz : Nat) (rw : Nat) (t0 : Nat) (u0 : Nat) (h0 : Nat) (y0 : Nat) (sv : Value) (nn : Nat) (nm : Int32) (nl : Int32) (no : Int32) (nu : Int32) (n1 : Nat) (n2 : Nat) (n3 : Nat) (n4 : Nat) (n5 : Nat) (n6 : Nat) (n7 : Nat) (n8 : Nat) (n9 : Nat) (n10 : Nat) (nf1 : Nat → Int32) (nf2 : Nat → Int32) (nf3 : Nat → Int32) (nf4 : Nat → Int32) (nf5 : Nat → Int32) (nf9 : Nat → Int32) (h_n : nn ≤ 10) (h_sr : SR nn nm nl no nf1 nf2 nf3 nf4 nf5 nf6 nf7 nf9 fa) : Ct l yX7_selfish cX7_selfish 4 (some .int) 5 0 0 D T [.ref o, .int k] [(o, .inr (7, [.ref n0, .ref s0, .ref im, .ref iz, .ref rw, .ref t0, .ref u0, .ref h0, .ref y0, sv])), (n0, .inr (5, [.int (nI nn), .int nm, .int nl, .int no, .int nu, .ref n1, .ref n2, .ref n3, .ref n4, .ref n5, .ref n6, .ref n7, .ref n8, .ref n9, .ref n10])), (n1, .inl (T 0, 10, .inl nf1)), (n2, .inl (T 0, 10, .inl nf2)), (n3, .inl (T 0, 10, .inl nf3)), (n4, .inl (T 0, 10, .inl nf4)), (n5, .inl (T 0, 10, .inl nf5)), (n9, .inl (T 0, 10, .inl nf9))] (q_x_selfish_f T nf6 nf7 fa o k n0 s0 im iz rw t0 u0 h0 y0 sv nn nm nl no nu n1 n2 n3 n4 n5 n6 n7 n8 n9 n10 nf1 nf2 nf3 nf4 nf5 nf9) := by
  refine Ct.of (cc := cX7_selfish) (maxL := 4) (ret := (some .int)) (by decide) (Nat.le_of_ble_eq_true rfl) ?_
  intro p e s m args below meth c A ls hC hnm V hl
  obtain ⟨hx, hb, hr, hml, hown, hts, hlocks⟩ := id hC
  generalize hH : s.heap = H at V ⊢
  clear hH
  have hl : lv_has ls 4 [(0, .ref o), (1, .int k)] := hl
  generalize hlo : ([] : List Loc) = locs at V ⊢
  clear hlo
  have hpw := pw10 h_n
  refine lv_iload_n hx hb dX7_selfish_0 rfl (lv_at hl 1 rfl) ?_
  refine lv_iconst (v := (-1)) hx hb dX7_selfish_1 (by decide +kernel) ?_
  refine lv_icmp_ge (tgt := 7) hx hb dX7_selfish_2 (by decide) (fun c_1 => ?_) (fun c_1 => ?_)
  · skip
    refine lv_iconst (v := (nI 0)) hx hb dX7_selfish_7 (by decide +kernel) ?_
    refine lv_istore_n (lv' := [(2, .int (nI 0)), (0, .ref o), (1, .int k)]) hx hb dX7_selfish_8 rfl hl (by decide) rfl (fun ls hl => ?_)
    refine lv_iconst (v := (nI 0)) hx hb dX7_selfish_9 (by decide +kernel) ?_
    refine lv_istore_n (lv' := [(3, .int (nI 0)), (2, .int (nI 0)), (0, .ref o), (1, .int k)]) hx hb dX7_selfish_10 rfl hl (by decide) rfl (fun ls hl => ?_)
    have L_2 : ∀ (fu : Nat) (k11 : Nat) (x2 : Int32), k11 ≤ 2 ^ nn → slG nn fa k (2 ^ nn) 0 (nI 0) = slG nn fa k (2 ^ nn - k11) k11 x2 → 2 ^ nn - k11 < fu → ∀ (H : Heap) (locs : List Loc) (ls : Array Slot), gW D T A s [(o, .inr (7, [.ref n0, .ref s0, .ref im, .ref iz, .ref rw, .ref t0, .ref u0, .ref h0, .ref y0, sv])), (n0, .inr (5, [.int (nI nn), .int nm, .int nl, .int no, .int nu, .ref n1, .ref n2, .ref n3, .ref n4, .ref n5, .ref n6, .ref n7, .ref n8, .ref n9, .ref n10])), (n1, .inl (T 0, 10, .inl nf1)), (n2, .inl (T 0, 10, .inl nf2)), (n3, .inl (T 0, 10, .inl nf3)), (n4, .inl (T 0, 10, .inl nf4)), (n5, .inl (T 0, 10, .inl nf5)), (n9, .inl (T 0, 10, .inl nf9))] H locs → lv_has ls 4 [(3, .int (nI k11)), (2, .int x2), (0, .ref o), (1, .int k)] → W p l e (rmD 5 0 0) s m args below meth c H locs 0 0 (MQ below (gQ D A (q_x_selfish_f T nf6 nf7 fa o k n0 s0 im iz rw t0 u0 h0 y0 sv nn nm nl no nu n1 n2 n3 n4 n5 n6 n7 n8 n9 n10 nf1 nf2 nf3 nf4 nf5 nf9)) args s 0 0 A) (F0 m 11 ls []) := by
      intro fu_11
      induction fu_11 with
      | zero => intro k11 x2 hk11 hE hmu; exact absurd hmu (Nat.not_lt_zero _)
      | succ fu_11 ih_11 =>
        intro k11 x2 hk11 hE hmu_11 H locs ls V hl
        refine lv_iload_n hx hb dX7_selfish_11 rfl (lv_at hl 0 rfl) ?_
        refine lv_aload_n hx hb dX7_selfish_12 rfl (lv_at hl 2 rfl) ?_
        refine g_get hC V (ci := 7) uwX7 0 rfl rfl 0 (by decide) w_249 rfl rfl dX7_selfish_13 ?_
        refine g_callVU (nA := 0) hC V hl.1 (s_everyone l D T n0 nn nm nl no nu n1 n2 n3 n4 n5 n6 n7 n8 n9 n10 (by first | assumption | omega)) w_682 w_463 w_464 w_3 w_465 (by decide +kernel) rfl ⟨(Nat.le_of_ble_eq_true rfl), (Nat.le_of_ble_eq_true rfl)⟩ 1 (ci := 5) rfl rfl [1] rfl rfl (Nat.le_of_ble_eq_true rfl) dX7_selfish_16 ⟨(Nat.le_of_ble_eq_true rfl), (Nat.le_of_ble_eq_true rfl)⟩ rfl (fun r w1 H locs hQ V => ?_)
        obtain ⟨rfl, rfl⟩ := hQ
        have V : gW D T A s [(o, .inr (7, [.ref n0, .ref s0, .ref im, .ref iz, .ref rw, .ref t0, .ref u0, .ref h0, .ref y0, sv])), (n0, .inr (5, [.int (nI nn), .int nm, .int nl, .int no, .int nu, .ref n1, .ref n2, .ref n3, .ref n4, .ref n5, .ref n6, .ref n7, .ref n8, .ref n9, .ref n10])), (n1, .inl (T 0, 10, .inl nf1)), (n2, .inl (T 0, 10, .inl nf2)), (n3, .inl (T 0, 10, .inl nf3)), (n4, .inl (T 0, 10, .inl nf4)), (n5, .inl (T 0, 10, .inl nf5)), (n9, .inl (T 0, 10, .inl nf9))] H locs := V _ [1] rfl rfl rfl (by decide +kernel) rfl
        show W p l e _ s m args below meth c H locs _ _ _ (F0 m 19 ls [.int (nI (2 ^ nn - 1)), .int (nI k11)])
        refine lv_icmp_gt (tgt := 49) hx hb dX7_selfish_19 (by decide) (fun c_3 => ?_) (fun c_3 => ?_)
        · skip
          have c_3 := b_lt (by omega) (by omega) c_3
          refine lv_iload_n hx hb dX7_selfish_49 rfl (lv_at hl 3 rfl) ?_
          refine lv_iconst (v := (-1)) hx hb dX7_selfish_50 (by decide +kernel) ?_
          refine lv_icmp_ne (tgt := 58) hx hb dX7_selfish_51 (by decide) (fun c_4 => ?_) (fun c_4 => ?_)
          · skip
            refine lv_iconst (v := (-1)) hx hb dX7_selfish_58 (by decide +kernel) ?_
            exact g_iret (Qr := (q_x_selfish_f T nf6 nf7 fa o k n0 s0 im iz rw t0 u0 h0 y0 sv nn nm nl no nu n1 n2 n3 n4 n5 n6 n7 n8 n9 n10 nf1 nf2 nf3 nf4 nf5 nf9)) hC V ⟨(Nat.le_of_ble_eq_true rfl), (Nat.le_of_ble_eq_true rfl)⟩ ⟨(-1), rfl, rfl, (hE.trans ((sl_e (by omega)).trans (if_neg c_4))).symm⟩ dX7_selfish_59
          · skip
            refine lv_iload_n hx hb dX7_selfish_54 rfl (lv_at hl 1 rfl) ?_
            refine lv_goto (tgt := 59) hx hb dX7_selfish_55 (by decide) ?_
            exact g_iret (Qr := (q_x_selfish_f T nf6 nf7 fa o k n0 s0 im iz rw t0 u0 h0 y0 sv nn nm nl no nu n1 n2 n3 n4 n5 n6 n7 n8 n9 n10 nf1 nf2 nf3 nf4 nf5 nf9)) hC V ⟨(Nat.le_of_ble_eq_true rfl), (Nat.le_of_ble_eq_true rfl)⟩ ⟨x2, rfl, rfl, (hE.trans ((sl_e (by omega)).trans (if_pos c_4))).symm⟩ dX7_selfish_59
        · skip
          have c_3 := b_nlt (by omega) (by omega) c_3
          refine lv_aload_n hx hb dX7_selfish_22 rfl (lv_at hl 2 rfl) ?_
          refine g_get hC V (ci := 7) uwX7 0 rfl rfl 0 (by decide) w_249 rfl rfl dX7_selfish_23 ?_
          refine lv_iload_n hx hb dX7_selfish_26 rfl (lv_at hl 0 rfl) ?_
          refine g_callVU (nA := 1) hC V hl.1 (s_isSelfish_f l D T fa n0 (nI k11) nn nm nl no nu n1 n2 n3 n4 n5 n6 n7 n8 n9 n10 nf1 nf2 nf3 nf4 nf5 nf9 (by first | assumption | omega) (fun i hi => (h_sr.2.2.2.2 i hi).1) (fun i hi => (h_sr.2.2.2.2 i hi).2.1) (fun i hi => (h_sr.2.2.2.2 i hi).2.2.1) (fun i hi => (h_sr.2.2.2.2 i hi).2.2.2.1) (fun i hi => (h_sr.2.2.2.2 i hi).2.2.2.2.1) (fun i hi => (h_sr.2.2.2.2 i hi).2.2.2.2.2.2.2)) w_687 w_688 w_689 w_3 w_690 (by decide +kernel) rfl ⟨(Nat.le_of_ble_eq_true rfl), (Nat.le_of_ble_eq_true rfl)⟩ 1 (ci := 5) rfl rfl [1, 2, 3, 4, 5, 6, 7] rfl rfl (Nat.le_of_ble_eq_true rfl) dX7_selfish_27 ⟨(Nat.le_of_ble_eq_true rfl), (Nat.le_of_ble_eq_true rfl)⟩ rfl (fun r w1 H locs hQ V => ?_)
          rcases hQ with ⟨rfl, rfl, f_5⟩ | ⟨rfl, rfl, f_6⟩
          · have V : gW D T A s [(o, .inr (7, [.ref n0, .ref s0, .ref im, .ref iz, .ref rw, .ref t0, .ref u0, .ref h0, .ref y0, sv])), (n0, .inr (5, [.int (nI nn), .int nm, .int nl, .int no, .int nu, .ref n1, .ref n2, .ref n3, .ref n4, .ref n5, .ref n6, .ref n7, .ref n8, .ref n9, .ref n10])), (n1, .inl (T 0, 10, .inl nf1)), (n2, .inl (T 0, 10, .inl nf2)), (n3, .inl (T 0, 10, .inl nf3)), (n4, .inl (T 0, 10, .inl nf4)), (n5, .inl (T 0, 10, .inl nf5)), (n9, .inl (T 0, 10, .inl nf9))] H locs := V _ [1, 0, 0, 0, 0, 0, 0] rfl rfl rfl (by decide +kernel) rfl
            show W p l e _ s m args below meth c H locs _ _ _ (F0 m 30 ls [.int (nI 1)])
            refine lv_if_eq (tgt := 43) hx hb dX7_selfish_30 (by decide) (fun c => absurd (show (nI 1) = 0 from c) (by decide +kernel)) (fun _ => ?_)
            refine lv_iload_n hx hb dX7_selfish_33 rfl (lv_at hl 1 rfl) ?_
            refine lv_iload_n hx hb dX7_selfish_34 rfl (lv_at hl 3 rfl) ?_
            refine lv_icmp_ne (tgt := 40) hx hb dX7_selfish_35 (by decide) (fun c_7 => ?_) (fun c_7 => ?_)
            · skip
              refine lv_iinc (v := (x2 + 1)) (lv' := [(2, .int (x2 + 1)), (3, .int (nI k11)), (0, .ref o), (1, .int k)]) hx hb dX7_selfish_40 hl (k := 1) rfl rfl (by decide) rfl (fun ls hl => ?_)
              refine lv_iinc (v := (nI (k11 + 1))) (lv' := [(3, .int (nI (k11 + 1))), (2, .int (x2 + 1)), (0, .ref o), (1, .int k)]) hx hb dX7_selfish_43 hl (k := 1) rfl (nI_1 _) (by decide) rfl (fun ls hl => ?_)
              refine lv_goto (tgt := 11) hx hb dX7_selfish_46 (by decide) ?_
              exact ih_11 (k11 + 1) (x2 + 1) (by omega) (hE.trans (sl_y (by omega) f_5 c_7)) (by omega) _ _ _ V (lv_sub hl [0, 1, 2, 3] rfl)
            · skip
              refine lv_iload_n hx hb dX7_selfish_38 rfl (lv_at hl 0 rfl) ?_
              exact g_iret (Qr := (q_x_selfish_f T nf6 nf7 fa o k n0 s0 im iz rw t0 u0 h0 y0 sv nn nm nl no nu n1 n2 n3 n4 n5 n6 n7 n8 n9 n10 nf1 nf2 nf3 nf4 nf5 nf9)) hC V ⟨(Nat.le_of_ble_eq_true rfl), (Nat.le_of_ble_eq_true rfl)⟩ ⟨(nI k11), rfl, rfl, (hE.trans (sl_f (by omega) f_5 c_7)).symm⟩ dX7_selfish_39
          · have V : gW D T A s [(o, .inr (7, [.ref n0, .ref s0, .ref im, .ref iz, .ref rw, .ref t0, .ref u0, .ref h0, .ref y0, sv])), (n0, .inr (5, [.int (nI nn), .int nm, .int nl, .int no, .int nu, .ref n1, .ref n2, .ref n3, .ref n4, .ref n5, .ref n6, .ref n7, .ref n8, .ref n9, .ref n10])), (n1, .inl (T 0, 10, .inl nf1)), (n2, .inl (T 0, 10, .inl nf2)), (n3, .inl (T 0, 10, .inl nf3)), (n4, .inl (T 0, 10, .inl nf4)), (n5, .inl (T 0, 10, .inl nf5)), (n9, .inl (T 0, 10, .inl nf9))] H locs := V _ [1, 0, 0, 0, 0, 0, 0] rfl rfl rfl (by decide +kernel) rfl
            show W p l e _ s m args below meth c H locs _ _ _ (F0 m 30 ls [.int (nI 0)])
            refine lv_if_eq (tgt := 43) hx hb dX7_selfish_30 (by decide) (fun _ => ?_) (fun c => absurd (show (nI 0) = 0 by decide +kernel) c)
            refine lv_iinc (v := (nI (k11 + 1))) (lv' := [(3, .int (nI (k11 + 1))), (2, .int x2), (0, .ref o), (1, .int k)]) hx hb dX7_selfish_43 hl (k := 0) rfl (nI_1 _) (by decide) rfl (fun ls hl => ?_)
            refine lv_goto (tgt := 11) hx hb dX7_selfish_46 (by decide) ?_
            exact ih_11 (k11 + 1) x2 (by omega) (hE.trans (sl_n (by omega) f_6)) (by omega) _ _ _ V (lv_sub hl [0, 1, 2, 3] rfl)
    exact L_2 _ 0 (nI 0) (by omega) rfl (Nat.lt_succ_self _) _ _ _ V (lv_sub hl [0, 1, 2, 3] rfl)
  · skip
    refine lv_iconst (v := (-1)) hx hb dX7_selfish_5 (by decide +kernel) ?_
    exact g_iret (Qr := (q_x_selfish_f T nf6 nf7 fa o k n0 s0 im iz rw t0 u0 h0 y0 sv nn nm nl no nu n1 n2 n3 n4 n5 n6 n7 n8 n9 n10 nf1 nf2 nf3 nf4 nf5 nf9)) hC V ⟨(Nat.le_of_ble_eq_true rfl), (Nat.le_of_ble_eq_true rfl)⟩ ⟨(-1), rfl, rfl, (sl_neg (Int32.not_le.mp c_1) _ 0 0 (by omega)).symm⟩ dX7_selfish_6

def q_m_payOf_f (T : Nat → ClassId) (n : Nat) (o : Nat) (j : Nat) (pl : Int32) (w0 : Int32) (g1 : Nat) (g2 : Nat) (g3 : Nat) (g4 : Nat) (tp : Nat) (w6 : Int32) (w7 : Int32) (w8 : Int32) (w9 : Int32) (w10 : Int32) (w11 : Int32) (w12 : Int32) (w13 : Int32) (w14 : Int32) (g15 : Nat) (w16 : Int32) (g17 : Nat) (w18 : Int32) (w19 : Int32) (g20 : Nat) (w21 : Int32) (g22 : Nat) (g23 : Nat) (g24 : Nat) (w25 : Int32) (w26 : Int32) (w27 : Int32) (g28 : Nat) (g29 : Nat) (w30 : Int32) (g31 : Nat) (g32 : Nat) (g33 : Nat) (fa : Nat → Int32) : Option Value → va_W → Prop := fun rr ww => (∃ (z : Int32), rr = some (.int z) ∧ ww = [(o, .inr (8, [.int w0, .ref g1, .ref g2, .ref g3, .ref g4, .int (nI tp), .int w6, .int w7, .int w8, .int w9, .int w10, .int w11, .int w12, .int w13, .int w14, .ref g15, .int w16, .ref g17, .int w18, .int w19, .ref g20, .int w21, .ref g22, .ref g23, .ref g24, .int w25, .int w26, .int w27, .ref g28, .ref g29, .int w30, .ref g31, .ref g32, .ref g33])), (g1, .inl (T 0, 282, .inl fa))] ∧ z = payF n fa j pl)
set_option maxHeartbeats 4000000 in
set_option maxRecDepth 100000 in
theorem m_payOf_f (l : Launch) (D : va_G) (T : Nat → ClassId) (n : Nat) (o : Nat) (j : Nat) (pl : Int32) (w0 : Int32) (g1 : Nat) (g2 : Nat) (g3 : Nat) (g4 : Nat) (tp : Nat) (w6 : Int32) (w7 : Int32) (w8 : Int32) (w9 : Int32) (w10 : Int32) (w11 : Int32) (w12 : Int32) (w13 : Int32) (w14 : Int32) (g15 : Nat) (w16 : Int32) (g17 : Nat) (w18 : Int32) (w19 : Int32) (g20 : Nat) (w21 : Int32) (g22 : Nat) (g23 : Nat) (g24 : Nat) (w25 : Int32) (w26 : Int32) (w27 : Int32) (g28 : Nat) (g29 : Nat) (w30 : Int32) (g31 : Nat) (g32 : Nat) (g33 : Nat) (fa : Nat → Int32) (h_a : MI n fa) (h_j : j < n) : Ct l yX8_payOf cX8_payOf 4 (some .int) 2 0 0 D T [.ref o, .int (nI j), .int pl] [(o, .inr (8, [.int w0, .ref g1, .ref g2, .ref g3, .ref g4, .int (nI tp), .int w6, .int w7, .int w8, .int w9, .int w10, .int w11, .int w12, .int w13, .int w14, .ref g15, .int w16, .ref g17, .int w18, .int w19, .ref g20, .int w21, .ref g22, .ref g23, .ref g24, .int w25, .int w26, .int w27, .ref g28, .ref g29, .int w30, .ref g31, .ref g32, .ref g33])), (g1, .inl (T 0, 282, .inl fa))] (q_m_payOf_f T n o j pl w0 g1 g2 g3 g4 tp w6 w7 w8 w9 w10 w11 w12 w13 w14 g15 w16 g17 w18 w19 g20 w21 g22 g23 g24 w25 w26 w27 g28 g29 w30 g31 g32 g33 fa) := by
  refine Ct.of (cc := cX8_payOf) (maxL := 4) (ret := (some .int)) (by decide) (Nat.le_of_ble_eq_true rfl) ?_
  intro p e s m args below meth c A ls hC hnm V hl
  obtain ⟨hx, hb, hr, hml, hown, hts, hlocks⟩ := id hC
  generalize hH : s.heap = H at V ⊢
  clear hH
  have hl : lv_has ls 4 [(0, .ref o), (1, .int (nI j)), (2, .int pl)] := hl
  generalize hlo : ([] : List Loc) = locs at V ⊢
  clear hlo
  have hn10 := h_a.1
  refine lv_aload_n hx hb dX8_payOf_0 rfl (lv_at hl 0 rfl) ?_
  refine lv_iload_n hx hb dX8_payOf_1 rfl (lv_at hl 1 rfl) ?_
  refine lv_iload_n hx hb dX8_payOf_2 rfl (lv_at hl 2 rfl) ?_
  refine lv_iconst (v := (nI 0)) hx hb dX8_payOf_3 (by decide +kernel) ?_
  refine g_callV (wr := []) (nA := 3) hC V hl.1 (m_heatThen_f l D T n o j pl (nI 0) w0 g1 g2 g3 g4 tp w6 w7 w8 w9 w10 w11 w12 w13 w14 g15 w16 g17 w18 w19 g20 w21 g22 g23 g24 w25 w26 w27 g28 g29 w30 g31 g32 g33 fa (by first | assumption | omega) (by first | assumption | omega)) w_1126 w_1128 w_s51 w_9 w_1129 (by decide +kernel) rfl ⟨(Nat.le_of_ble_eq_true rfl), (Nat.le_of_ble_eq_true rfl)⟩ 0 (ci := 8) rfl rfl [0, 1] [] rfl rfl rfl rfl (by decide) (Nat.le_of_ble_eq_true rfl) dX8_payOf_4 ⟨(Nat.le_of_ble_eq_true rfl), (Nat.le_of_ble_eq_true rfl)⟩ rfl (fun r w1 H locs hQ V => ?_)
  obtain ⟨z_1, rfl, rfl, f_2, f_3⟩ := hQ
  have V : gW D T A s [(o, .inr (8, [.int w0, .ref g1, .ref g2, .ref g3, .ref g4, .int (nI tp), .int w6, .int w7, .int w8, .int w9, .int w10, .int w11, .int w12, .int w13, .int w14, .ref g15, .int w16, .ref g17, .int w18, .int w19, .ref g20, .int w21, .ref g22, .ref g23, .ref g24, .int w25, .int w26, .int w27, .ref g28, .ref g29, .int w30, .ref g31, .ref g32, .ref g33])), (g1, .inl (T 0, 282, .inl fa))] H locs := V
  show W p l e _ s m args below meth c H locs _ _ _ (F0 m 7 ls [.int z_1])
  have hhb := hm_eq f_3
  refine lv_istore_n (lv' := [(3, .int z_1), (0, .ref o), (1, .int (nI j)), (2, .int pl)]) hx hb dX8_payOf_7 rfl hl (by decide) rfl (fun ls hl => ?_)
  refine lv_iload_n hx hb dX8_payOf_8 rfl (lv_at hl 0 rfl) ?_
  refine lv_aload_n hx hb dX8_payOf_9 rfl (lv_at hl 1 rfl) ?_
  refine g_get hC V (ci := 8) uwX8 0 rfl rfl 1 (by decide) w_913 rfl rfl dX8_payOf_10 ?_
  refine lv_bipush (v := (nI 34)) hx hb dX8_payOf_13 (by decide +kernel) ?_
  refine lv_iload_n hx hb dX8_payOf_15 rfl (lv_at hl 2 rfl) ?_
  refine lv_iadd hx hb dX8_payOf_16 ?_
  refine g_vi (y := (nI (34 + j))) (nI_add _ _) ?_
  refine g_iald hC V 1 rfl (vp_in_nI (by omega) (by omega)) (v := (fa (34 + j))) (congrArg _ (nI_clamp (by omega))) dX8_payOf_17 ?_
  refine lv_icmp_lt (tgt := 38) hx hb dX8_payOf_18 (by decide) (fun c_4 => ?_) (fun c_4 => ?_)
  · skip
    refine lv_iconst (v := (nI 0)) hx hb dX8_payOf_38 (by decide +kernel) ?_
    refine lv_iload_n hx hb dX8_payOf_39 rfl (lv_at hl 3 rfl) ?_
    refine lv_i2l (v := pl.toInt64) hx hb dX8_payOf_40 rfl ?_
    refine lv_iload_n hx hb dX8_payOf_41 rfl (lv_at hl 2 rfl) ?_
    refine g_callSU (nA := 2) hC V hl.1 (m_isIn_f l D T pl j (by omega)) w_1130 w_1131 w_9 w_1132 (by decide +kernel) rfl ⟨(Nat.le_of_ble_eq_true rfl), (Nat.le_of_ble_eq_true rfl)⟩ [] rfl rfl (Nat.le_of_ble_eq_true rfl) dX8_payOf_42 ⟨(Nat.le_of_ble_eq_true rfl), (Nat.le_of_ble_eq_true rfl)⟩ rfl (fun r w1 H locs hQ V => ?_)
    rcases hQ with ⟨rfl, rfl, f_5⟩ | ⟨rfl, rfl, f_6⟩
    · have V : gW D T A s [(o, .inr (8, [.int w0, .ref g1, .ref g2, .ref g3, .ref g4, .int (nI tp), .int w6, .int w7, .int w8, .int w9, .int w10, .int w11, .int w12, .int w13, .int w14, .ref g15, .int w16, .ref g17, .int w18, .int w19, .ref g20, .int w21, .ref g22, .ref g23, .ref g24, .int w25, .int w26, .int w27, .ref g28, .ref g29, .int w30, .ref g31, .ref g32, .ref g33])), (g1, .inl (T 0, 282, .inl fa))] H locs := V _ [] rfl rfl rfl (by decide +kernel) rfl
      show W p l e _ s m args below meth c H locs _ _ _ (F0 m 45 ls [.int (nI 1), .int (nI 0)])
      refine lv_if_eq (tgt := 52) hx hb dX8_payOf_45 (by decide) (fun c => absurd (show (nI 1) = 0 from c) (by decide +kernel)) (fun _ => ?_)
      refine lv_iconst (v := (nI 1)) hx hb dX8_payOf_48 (by decide +kernel) ?_
      refine lv_goto (tgt := 53) hx hb dX8_payOf_49 (by decide) ?_
      refine lv_isub hx hb dX8_payOf_53 ?_
      refine g_vi (y := (-1)) (by decide +kernel) ?_
      exact g_iret (Qr := (q_m_payOf_f T n o j pl w0 g1 g2 g3 g4 tp w6 w7 w8 w9 w10 w11 w12 w13 w14 g15 w16 g17 w18 w19 g20 w21 g22 g23 g24 w25 w26 w27 g28 g29 w30 g31 g32 g33 fa)) hC V ⟨(Nat.le_of_ble_eq_true rfl), (Nat.le_of_ble_eq_true rfl)⟩ ⟨(-1), rfl, rfl, (pf_01 (fun q => q.1 (by rw [← hhb]; exact c_4)) f_5)⟩ dX8_payOf_54
    · have V : gW D T A s [(o, .inr (8, [.int w0, .ref g1, .ref g2, .ref g3, .ref g4, .int (nI tp), .int w6, .int w7, .int w8, .int w9, .int w10, .int w11, .int w12, .int w13, .int w14, .ref g15, .int w16, .ref g17, .int w18, .int w19, .ref g20, .int w21, .ref g22, .ref g23, .ref g24, .int w25, .int w26, .int w27, .ref g28, .ref g29, .int w30, .ref g31, .ref g32, .ref g33])), (g1, .inl (T 0, 282, .inl fa))] H locs := V _ [] rfl rfl rfl (by decide +kernel) rfl
      show W p l e _ s m args below meth c H locs _ _ _ (F0 m 45 ls [.int (nI 0), .int (nI 0)])
      refine lv_if_eq (tgt := 52) hx hb dX8_payOf_45 (by decide) (fun _ => ?_) (fun c => absurd (show (nI 0) = 0 by decide +kernel) c)
      refine lv_iconst (v := (nI 0)) hx hb dX8_payOf_52 (by decide +kernel) ?_
      refine lv_isub hx hb dX8_payOf_53 ?_
      refine g_vi (y := (nI 0)) (by decide +kernel) ?_
      exact g_iret (Qr := (q_m_payOf_f T n o j pl w0 g1 g2 g3 g4 tp w6 w7 w8 w9 w10 w11 w12 w13 w14 g15 w16 g17 w18 w19 g20 w21 g22 g23 g24 w25 w26 w27 g28 g29 w30 g31 g32 g33 fa)) hC V ⟨(Nat.le_of_ble_eq_true rfl), (Nat.le_of_ble_eq_true rfl)⟩ ⟨(nI 0), rfl, rfl, (pf_00 (fun q => q.1 (by rw [← hhb]; exact c_4)) f_6)⟩ dX8_payOf_54
  · skip
    refine lv_iload_n hx hb dX8_payOf_21 rfl (lv_at hl 0 rfl) ?_
    refine lv_aload_n hx hb dX8_payOf_22 rfl (lv_at hl 1 rfl) ?_
    refine g_get hC V (ci := 8) uwX8 0 rfl rfl 1 (by decide) w_913 rfl rfl dX8_payOf_23 ?_
    refine lv_bipush (v := (nI 44)) hx hb dX8_payOf_26 (by decide +kernel) ?_
    refine lv_iload_n hx hb dX8_payOf_28 rfl (lv_at hl 2 rfl) ?_
    refine lv_iadd hx hb dX8_payOf_29 ?_
    refine g_vi (y := (nI (44 + j))) (nI_add _ _) ?_
    refine g_iald hC V 1 rfl (vp_in_nI (by omega) (by omega)) (v := (fa (44 + j))) (congrArg _ (nI_clamp (by omega))) dX8_payOf_30 ?_
    refine lv_icmp_gt (tgt := 38) hx hb dX8_payOf_31 (by decide) (fun c_7 => ?_) (fun c_7 => ?_)
    · skip
      refine lv_iconst (v := (nI 0)) hx hb dX8_payOf_38 (by decide +kernel) ?_
      refine lv_iload_n hx hb dX8_payOf_39 rfl (lv_at hl 3 rfl) ?_
      refine lv_i2l (v := pl.toInt64) hx hb dX8_payOf_40 rfl ?_
      refine lv_iload_n hx hb dX8_payOf_41 rfl (lv_at hl 2 rfl) ?_
      refine g_callSU (nA := 2) hC V hl.1 (m_isIn_f l D T pl j (by omega)) w_1130 w_1131 w_9 w_1132 (by decide +kernel) rfl ⟨(Nat.le_of_ble_eq_true rfl), (Nat.le_of_ble_eq_true rfl)⟩ [] rfl rfl (Nat.le_of_ble_eq_true rfl) dX8_payOf_42 ⟨(Nat.le_of_ble_eq_true rfl), (Nat.le_of_ble_eq_true rfl)⟩ rfl (fun r w1 H locs hQ V => ?_)
      rcases hQ with ⟨rfl, rfl, f_8⟩ | ⟨rfl, rfl, f_9⟩
      · have V : gW D T A s [(o, .inr (8, [.int w0, .ref g1, .ref g2, .ref g3, .ref g4, .int (nI tp), .int w6, .int w7, .int w8, .int w9, .int w10, .int w11, .int w12, .int w13, .int w14, .ref g15, .int w16, .ref g17, .int w18, .int w19, .ref g20, .int w21, .ref g22, .ref g23, .ref g24, .int w25, .int w26, .int w27, .ref g28, .ref g29, .int w30, .ref g31, .ref g32, .ref g33])), (g1, .inl (T 0, 282, .inl fa))] H locs := V _ [] rfl rfl rfl (by decide +kernel) rfl
        show W p l e _ s m args below meth c H locs _ _ _ (F0 m 45 ls [.int (nI 1), .int (nI 0)])
        refine lv_if_eq (tgt := 52) hx hb dX8_payOf_45 (by decide) (fun c => absurd (show (nI 1) = 0 from c) (by decide +kernel)) (fun _ => ?_)
        refine lv_iconst (v := (nI 1)) hx hb dX8_payOf_48 (by decide +kernel) ?_
        refine lv_goto (tgt := 53) hx hb dX8_payOf_49 (by decide) ?_
        refine lv_isub hx hb dX8_payOf_53 ?_
        refine g_vi (y := (-1)) (by decide +kernel) ?_
        exact g_iret (Qr := (q_m_payOf_f T n o j pl w0 g1 g2 g3 g4 tp w6 w7 w8 w9 w10 w11 w12 w13 w14 g15 w16 g17 w18 w19 g20 w21 g22 g23 g24 w25 w26 w27 g28 g29 w30 g31 g32 g33 fa)) hC V ⟨(Nat.le_of_ble_eq_true rfl), (Nat.le_of_ble_eq_true rfl)⟩ ⟨(-1), rfl, rfl, (pf_01 (fun q => q.2 (by rw [← hhb]; exact c_7)) f_8)⟩ dX8_payOf_54
      · have V : gW D T A s [(o, .inr (8, [.int w0, .ref g1, .ref g2, .ref g3, .ref g4, .int (nI tp), .int w6, .int w7, .int w8, .int w9, .int w10, .int w11, .int w12, .int w13, .int w14, .ref g15, .int w16, .ref g17, .int w18, .int w19, .ref g20, .int w21, .ref g22, .ref g23, .ref g24, .int w25, .int w26, .int w27, .ref g28, .ref g29, .int w30, .ref g31, .ref g32, .ref g33])), (g1, .inl (T 0, 282, .inl fa))] H locs := V _ [] rfl rfl rfl (by decide +kernel) rfl
        show W p l e _ s m args below meth c H locs _ _ _ (F0 m 45 ls [.int (nI 0), .int (nI 0)])
        refine lv_if_eq (tgt := 52) hx hb dX8_payOf_45 (by decide) (fun _ => ?_) (fun c => absurd (show (nI 0) = 0 by decide +kernel) c)
        refine lv_iconst (v := (nI 0)) hx hb dX8_payOf_52 (by decide +kernel) ?_
        refine lv_isub hx hb dX8_payOf_53 ?_
        refine g_vi (y := (nI 0)) (by decide +kernel) ?_
        exact g_iret (Qr := (q_m_payOf_f T n o j pl w0 g1 g2 g3 g4 tp w6 w7 w8 w9 w10 w11 w12 w13 w14 g15 w16 g17 w18 w19 g20 w21 g22 g23 g24 w25 w26 w27 g28 g29 w30 g31 g32 g33 fa)) hC V ⟨(Nat.le_of_ble_eq_true rfl), (Nat.le_of_ble_eq_true rfl)⟩ ⟨(nI 0), rfl, rfl, (pf_00 (fun q => q.2 (by rw [← hhb]; exact c_7)) f_9)⟩ dX8_payOf_54
    · skip
      refine lv_iconst (v := (nI 2)) hx hb dX8_payOf_34 (by decide +kernel) ?_
      refine lv_goto (tgt := 39) hx hb dX8_payOf_35 (by decide) ?_
      refine lv_iload_n hx hb dX8_payOf_39 rfl (lv_at hl 3 rfl) ?_
      refine lv_i2l (v := pl.toInt64) hx hb dX8_payOf_40 rfl ?_
      refine lv_iload_n hx hb dX8_payOf_41 rfl (lv_at hl 2 rfl) ?_
      refine g_callSU (nA := 2) hC V hl.1 (m_isIn_f l D T pl j (by omega)) w_1130 w_1131 w_9 w_1132 (by decide +kernel) rfl ⟨(Nat.le_of_ble_eq_true rfl), (Nat.le_of_ble_eq_true rfl)⟩ [] rfl rfl (Nat.le_of_ble_eq_true rfl) dX8_payOf_42 ⟨(Nat.le_of_ble_eq_true rfl), (Nat.le_of_ble_eq_true rfl)⟩ rfl (fun r w1 H locs hQ V => ?_)
      rcases hQ with ⟨rfl, rfl, f_10⟩ | ⟨rfl, rfl, f_11⟩
      · have V : gW D T A s [(o, .inr (8, [.int w0, .ref g1, .ref g2, .ref g3, .ref g4, .int (nI tp), .int w6, .int w7, .int w8, .int w9, .int w10, .int w11, .int w12, .int w13, .int w14, .ref g15, .int w16, .ref g17, .int w18, .int w19, .ref g20, .int w21, .ref g22, .ref g23, .ref g24, .int w25, .int w26, .int w27, .ref g28, .ref g29, .int w30, .ref g31, .ref g32, .ref g33])), (g1, .inl (T 0, 282, .inl fa))] H locs := V _ [] rfl rfl rfl (by decide +kernel) rfl
        show W p l e _ s m args below meth c H locs _ _ _ (F0 m 45 ls [.int (nI 1), .int (nI 2)])
        refine lv_if_eq (tgt := 52) hx hb dX8_payOf_45 (by decide) (fun c => absurd (show (nI 1) = 0 from c) (by decide +kernel)) (fun _ => ?_)
        refine lv_iconst (v := (nI 1)) hx hb dX8_payOf_48 (by decide +kernel) ?_
        refine lv_goto (tgt := 53) hx hb dX8_payOf_49 (by decide) ?_
        refine lv_isub hx hb dX8_payOf_53 ?_
        refine g_vi (y := (nI 1)) (by decide +kernel) ?_
        exact g_iret (Qr := (q_m_payOf_f T n o j pl w0 g1 g2 g3 g4 tp w6 w7 w8 w9 w10 w11 w12 w13 w14 g15 w16 g17 w18 w19 g20 w21 g22 g23 g24 w25 w26 w27 g28 g29 w30 g31 g32 g33 fa)) hC V ⟨(Nat.le_of_ble_eq_true rfl), (Nat.le_of_ble_eq_true rfl)⟩ ⟨(nI 1), rfl, rfl, (pf_21 ⟨by rw [← hhb]; exact c_4, by rw [← hhb]; exact c_7⟩ f_10)⟩ dX8_payOf_54
      · have V : gW D T A s [(o, .inr (8, [.int w0, .ref g1, .ref g2, .ref g3, .ref g4, .int (nI tp), .int w6, .int w7, .int w8, .int w9, .int w10, .int w11, .int w12, .int w13, .int w14, .ref g15, .int w16, .ref g17, .int w18, .int w19, .ref g20, .int w21, .ref g22, .ref g23, .ref g24, .int w25, .int w26, .int w27, .ref g28, .ref g29, .int w30, .ref g31, .ref g32, .ref g33])), (g1, .inl (T 0, 282, .inl fa))] H locs := V _ [] rfl rfl rfl (by decide +kernel) rfl
        show W p l e _ s m args below meth c H locs _ _ _ (F0 m 45 ls [.int (nI 0), .int (nI 2)])
        refine lv_if_eq (tgt := 52) hx hb dX8_payOf_45 (by decide) (fun _ => ?_) (fun c => absurd (show (nI 0) = 0 by decide +kernel) c)
        refine lv_iconst (v := (nI 0)) hx hb dX8_payOf_52 (by decide +kernel) ?_
        refine lv_isub hx hb dX8_payOf_53 ?_
        refine g_vi (y := (nI 2)) (by decide +kernel) ?_
        exact g_iret (Qr := (q_m_payOf_f T n o j pl w0 g1 g2 g3 g4 tp w6 w7 w8 w9 w10 w11 w12 w13 w14 g15 w16 g17 w18 w19 g20 w21 g22 g23 g24 w25 w26 w27 g28 g29 w30 g31 g32 g33 fa)) hC V ⟨(Nat.le_of_ble_eq_true rfl), (Nat.le_of_ble_eq_true rfl)⟩ ⟨(nI 2), rfl, rfl, (pf_20 ⟨by rw [← hhb]; exact c_4, by rw [← hhb]; exact c_7⟩ f_11)⟩ dX8_payOf_54
