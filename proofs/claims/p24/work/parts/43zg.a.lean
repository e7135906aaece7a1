/-! the best ROUND -/
theorem g_copyf {p : Program} {l : Launch} {e : Env} {R : Room} {s : State} {m : MethodId} {args : Array Value} {below : List Frame} {meth : Method} {c : Code} {H : Heap} {locs : List Loc} {cells slots : Nat} {Q : State → Prop} {own : String} {cc : ByteArray} {nL : Nat} {rt : Option FieldType} {pc : Nat} {ls : Array Slot} {rest : List Value} {D : va_G} {T : Nat → ClassId} {A : Nat → Prop} {a a0 : Nat} {ws : va_W}
    (hC : cX p s m args meth c own cc nL rt) (V : gW D T A s ws H locs) (hl : ls.size = nL) {index : Nat} (w1 : Cond.methodLink own index arraycopyName ∈ gT) (w2 : Cond.native arraycopyName ∈ gT) (w3 : Cond.static arraycopyName ∈ gT) (w4 : Cond.initialized "java/lang/System" ∈ gT) (q0 q1 : Nat) {n0 n1 : Nat} {f g : Nat → Int32} (ha0 : ws[q0]? = some (a0, .inl (T 0, n0, .inl f))) (ha1 : ws[q1]? = some (a, .inl (T 0, n1, .inl g))) {sp dp n : Int32} (h123 : ¬ sp < 0 ∧ ¬ dp < 0 ∧ ¬ n < 0) (h45 : sp.toNatClampNeg + n.toNatClampNeg ≤ n0 ∧ dp.toNatClampNeg + n.toNatClampNeg ≤ n1) (hfr : 1 ≤ R.frames) (hst : (rest.map fun v => v.category).sum ≤ 8) (hlo : 8 + (nativeFrameWords "java/lang/System" "arraycopy" 5 + 11) ≤ R.locals) (hdg : decode cc pc = .ok (.invokestatic index, 3)) (k : Nat) (hk : sp.toNatClampNeg = 0 ∧ dp.toNatClampNeg = 0 ∧ n.toNatClampNeg = k)
    (kk : ∀ (f' : Nat → Int32), (∀ i, i < k → f' i = f i) → ∀ (H1 : Heap) (locs1 : List Loc), gW D T A s (ws.set q1 (a, .inl (T 0, n1, .inl f'))) H1 locs1 → W p l e R s m args below meth c H1 locs1 cells slots Q (F0 m (pc + 3) ls rest)) : W p l e R s m args below meth c H locs cells slots Q (F0 m pc ls (.int n :: .int dp :: .ref a :: .int sp :: .ref a0 :: rest)) :=
  va_copyi hC.1 hC.2.1 (hC.2.2.2.1.trans hl.symm) hC.2.2.2.2.1 (hC.2.2.2.2.2.1 _ w1) (hC.2.2.2.2.2.1 _ w2) (hC.2.2.2.2.2.1 _ w3) (hC.2.2.2.2.2.1 _ w4) V.1 V.2.1 V.2.2.1 V.2.2.2.1 q0 q1 0 0 ha0 ha1 rfl rfl rfl h123.1 h123.2.1 h123.2.2 h45.1 h45.2 (fun _ _ => rfl) hfr (Nat.le_trans (Nat.add_le_add_right hst _) hlo) hdg (fun H1 locs1 h1 h2 h3 => kk _ (fun i hi => by
    show (if dp.toNatClampNeg ≤ i ∧ i < dp.toNatClampNeg + n.toNatClampNeg then f (sp.toNatClampNeg + (i - dp.toNatClampNeg)) else g i) = f i
    rw [hk.1, hk.2.1, hk.2.2, if_pos ⟨Nat.zero_le _, by omega⟩, Nat.zero_add, Nat.sub_zero]) H1 locs1 ⟨V.1, h1, h2, h3, V.2.2.2.2⟩)
def NVR (n : Nat) (f P : Nat → Int32) (L : Nat) : Prop := ∀ i, i < n → NE n f P L i
theorem bh_ne {n : Nat} {f P : Nat → Int32} {L i : Nat} {z : Int32} (h : BH n f P L i z) (c : z = -1) : NE n f P L i := by
  rcases h with h | ⟨t, ht, e, _⟩
  · exact h.2
  · exact absurd (e.symm.trans c) (m1_nI (by omega))
theorem bh_bk {n : Nat} {f P : Nat → Int32} {L i : Nat} {z : Int32} (h : BH n f P L i z) (c : ¬ z = -1) : ¬ NE n f P L i := by
  rcases h with h | ⟨t, ht, e, b, _⟩
  · exact absurd h.1 c
  · exact fun q => q _ (by omega) b
theorem ho_nv {n : Nat} {f P : Nat → Int32} {L : Nat} {z w : Int32} (h : HO n f P L n z w) (c : z = -1) : NVR n f P L := by
  rcases h with h | ⟨t, j, hj, ht, e, _⟩
  · exact h.2.2
  · exact absurd (e.symm.trans c) (m1_nI (by omega))
theorem ho_nn {n : Nat} {f P : Nat → Int32} {L : Nat} {z w : Int32} (h : HO n f P L n z w) (c : ¬ z = -1) : ¬ NVR n f P L := by
  rcases h with h | ⟨t, j, hj, ht, e, _, b, _⟩
  · exact absurd h.1 c
  · exact fun q => q j hj _ (by omega) b
theorem nvr_ext {n : Nat} {f P Q : Nat → Int32} {L : Nat} (hL : 1 ≤ L) (h : ∀ k, k < n → ∀ t, t < L → (bitP (P k) t ↔ bitP (Q k) t)) : NVR n f P L ↔ NVR n f Q L := by
  have e : bkP n f P L = bkP n f Q L := by funext i t; exact bk_ext hL h
  unfold NVR NE; rw [e]
def rdP (n L k : Nat) : Nat → Int32 := fun i => (nI k) >>> ((nI ((n - 1 - i) * L)) &&& 31) &&& nI (2 ^ L - 1)
noncomputable def rbF (n : Nat) (f : Nat → Int32) (L : Nat) : Nat → Int32 × Nat
  | 0 => (-1, 0)
  | k + 1 => @ite _ (((rbF n f L k).1 = -1 ∨ btS (nI k) 10 < (rbF n f L k).1) ∧ NVR n f (rdP n L k) L) (Classical.propDecidable _) (btS (nI k) 10, k) (rbF n f L k)
theorem rz_is {n L k : Nat} {f : Nat → Int32} (h : ((rbF n f L k).1 = -1 ∨ btS (nI k) 10 < (rbF n f L k).1) ∧ NVR n f (rdP n L k) L) : rbF n f L (k + 1) = (btS (nI k) 10, k) := by
  show @ite _ (((rbF n f L k).1 = -1 ∨ btS (nI k) 10 < (rbF n f L k).1) ∧ NVR n f (rdP n L k) L) (Classical.propDecidable _) _ _ = _
  rw [if_pos h]
theorem rz_no {n L k : Nat} {f : Nat → Int32} (h : ¬ (((rbF n f L k).1 = -1 ∨ btS (nI k) 10 < (rbF n f L k).1) ∧ NVR n f (rdP n L k) L)) : rbF n f L (k + 1) = rbF n f L k := by
  show @ite _ (((rbF n f L k).1 = -1 ∨ btS (nI k) 10 < (rbF n f L k).1) ∧ NVR n f (rdP n L k) L) (Classical.propDecidable _) _ _ = _
  rw [if_neg h]
/-- the fewest pulls till now, and whose numbers are the best -/
def RBI (n : Nat) (f : Nat → Int32) (L k : Nat) (x : Int32) (g : Nat → Int32) : Prop := x = (rbF n f L k).1 ∧ (¬ x = -1 → ∀ i, i < n → g i = rdP n L (rbF n f L k).2 i)
theorem rz_0 {n L : Nat} {f g : Nat → Int32} : RBI n f L 0 (-1) g := ⟨rfl, fun q => absurd rfl q⟩
theorem rz_s1 {n L k : Nat} {f g : Nat → Int32} {x b : Int32} (h : RBI n f L k x g) (eb : b = btS (nI k) 10) (nz : ¬ x = -1) (c : ¬ b < x) : RBI n f L (k + 1) x g := by
  have e : rbF n f L (k + 1) = rbF n f L k := rz_no (fun q => q.1.elim (fun r => nz (h.1.trans r)) (fun r => c (by rw [eb, h.1]; exact r)))
  unfold RBI; rw [e]; exact h
theorem rz_s2 {n L k : Nat} {f g : Nat → Int32} {x : Int32} (h : RBI n f L k x g) (c : ¬ NVR n f (rdP n L k) L) : RBI n f L (k + 1) x g := by
  have e : rbF n f L (k + 1) = rbF n f L k := rz_no (fun q => c q.2)
  unfold RBI; rw [e]; exact h
theorem rz_y {n L k : Nat} {f g g' : Nat → Int32} {x b : Int32} (h : RBI n f L k x g) (eb : b = btS (nI k) 10) (d : x = -1 ∨ b < x) (c : NVR n f (rdP n L k) L) (hg : ∀ i, i < n → g' i = rdP n L k i) : RBI n f L (k + 1) b g' := by
  have e : rbF n f L (k + 1) = (btS (nI k) 10, k) := rz_is ⟨d.elim (fun r => Or.inl (h.1.symm.trans r)) (fun r => Or.inr (by rw [← eb, ← h.1]; exact r)), c⟩
  unfold RBI; rw [e]; exact ⟨eb, fun _ => hg⟩
theorem rz_f1 {n L k K : Nat} {f g : Nat → Int32} {x : Int32} (h : RBI n f L k x g) (e : k = K) : x = (rbF n f L K).1 := e ▸ h.1
theorem rz_f2 {n L k K : Nat} {f g : Nat → Int32} {x : Int32} (h : RBI n f L k x g) (e : k = K) : ¬ x = -1 → ∀ i, i < n → g i = rdP n L (rbF n f L K).2 i := e ▸ h.2
theorem bt_12 : ∀ s, s < 1024 → btS (nI s) 12 = btS (nI s) 10 := by decide +kernel
theorem bt_y {x z : Int32} {k : Nat} (h : z = btS x k) (b : bitP x k) : z + nI 1 = btS x (k + 1) := by
  show z + nI 1 = btS x k + (if bitP x k then nI 1 else nI 0); rw [if_pos b, h]
theorem bt_n {x z : Int32} {k : Nat} (h : z = btS x k) (b : ¬ bitP x k) : z + nI 0 = btS x (k + 1) := by
  show z + nI 0 = btS x k + (if bitP x k then nI 1 else nI 0); rw [if_neg b, h]
def smW (n : Nat) (w : Int32) : Prop := ∃ j, j < n ∧ w = nI (10 + j)
theorem sw_y {n j : Nat} {w : Int32} (hj : j < n) (e : w - nI 10 = nI j) : smW n w := ⟨j, hj, by
  have : w - nI 10 + nI 10 = w := Int32.sub_add_cancel _ _
  rw [← this, e, nI_add, Nat.add_comm]⟩
theorem sw_n1 {n : Nat} {w : Int32} (hn : n ≤ 10) (c : w - nI 10 < 0 ∨ nI n ≤ w - nI 10) : ¬ smW n w := fun ⟨j, hj, e⟩ => by
  rw [e, nI_sub (by omega), show 10 + j - 10 = j by omega] at c
  rcases c with c | c
  · exact nI_pos (by omega) c
  · have := b_le (by omega) (by omega) c; omega
theorem sw_n2 {n : Nat} {w : Int32} (hn : n ≤ 10) (c : w < nI 10 ∨ nI (9 + n) < w) : ¬ smW n w := fun ⟨j, hj, e⟩ => by
  rw [e] at c
  rcases c with c | c
  · have := b_lt (by omega) (by omega) c; omega
  · have := b_lt (by omega) (by omega) c; omega
noncomputable def brA (n : Nat) (f : Nat → Int32) (le wh : Int32) : Int32 := @ite _ (¬ wh = 0 ∧ ¬ smW n wh) (Classical.propDecidable _) (-2) (if le < nI 1 ∨ nI 10 < le then -3 else if 10 < n * le.toNatClampNeg then -4 else if wh = 0 ∨ (rbF n f le.toNatClampNeg (2 ^ (n * le.toNatClampNeg))).1 = -1 then (rbF n f le.toNatClampNeg (2 ^ (n * le.toNatClampNeg))).1 else rdP n le.toNatClampNeg (rbF n f le.toNatClampNeg (2 ^ (n * le.toNatClampNeg))).2 (wh - nI 10).toNatClampNeg)
theorem br_2 {n : Nat} {f : Nat → Int32} {le wh : Int32} (c : ¬ wh = 0) (d : ¬ smW n wh) : -2 = brA n f le wh := by unfold brA; rw [if_pos ⟨c, d⟩]
theorem br_3 {n : Nat} {f : Nat → Int32} {le wh : Int32} (c : ¬ (¬ wh = 0 ∧ ¬ smW n wh)) (d : le < nI 1 ∨ nI 10 < le) : -3 = brA n f le wh := by unfold brA; rw [if_neg c, if_pos d]
theorem br_4 {n L : Nat} {f : Nat → Int32} {le wh : Int32} (c : ¬ (¬ wh = 0 ∧ ¬ smW n wh)) (d1 : ¬ le < nI 1) (d2 : ¬ nI 10 < le) (el : le = nI L) (hL : L ≤ 10) (h : 10 < n * L) : -4 = brA n f le wh := by
  unfold brA; rw [if_neg c, if_neg (fun q => q.elim d1 d2), el, nI_clamp (by omega), if_pos h]
theorem br_p {n L : Nat} {f : Nat → Int32} {le wh z : Int32} (c : ¬ (¬ wh = 0 ∧ ¬ smW n wh)) (d1 : ¬ le < nI 1) (d2 : ¬ nI 10 < le) (el : le = nI L) (hL : L ≤ 10) (h : ¬ 10 < n * L) (ez : z = (rbF n f L (2 ^ (n * L))).1) (w : wh = 0 ∨ z = -1) : z = brA n f le wh := by
  unfold brA; rw [if_neg c, if_neg (fun q => q.elim d1 d2), el, nI_clamp (by omega), if_neg h, if_pos (w.imp id (fun r => ez.symm.trans r))]; exact ez
theorem br_b {n L j : Nat} {f : Nat → Int32} {le wh z y : Int32} (c : ¬ (¬ wh = 0 ∧ ¬ smW n wh)) (d1 : ¬ le < nI 1) (d2 : ¬ nI 10 < le) (el : le = nI L) (hL : L ≤ 10) (h : ¬ 10 < n * L) (ez : z = (rbF n f L (2 ^ (n * L))).1) (w1 : ¬ wh = 0) (w2 : ¬ z = -1) (ej : wh - nI 10 = nI j) (hj : j < 10) (ey : y = rdP n L (rbF n f L (2 ^ (n * L))).2 j) : y = brA n f le wh := by
  unfold brA; rw [if_neg c, if_neg (fun q => q.elim d1 d2), el, nI_clamp (by omega), if_neg h, if_neg (fun q => q.elim w1 (fun r => w2 (ez.trans r))), ej, nI_clamp (by omega)]; exact ey
/-- the reference's numbers are longs -/
def RBJ (n : Nat) (f : Nat → Int32) (L k : Nat) (x : Int32) (g : Nat → Int64) : Prop := RBI n f L k x (fun i => (g i).toInt32)
theorem rj_0 {n L : Nat} {f : Nat → Int32} {g : Nat → Int64} : RBJ n f L 0 (-1) g := rz_0
theorem rj_y {n L k : Nat} {f : Nat → Int32} {g g' : Nat → Int64} {x b : Int32} (h : RBJ n f L k x g) (eb : b = btS (nI k) 10) (d : x = -1 ∨ b < x) (c : NVR n f (rdP n L k) L) (hg : ∀ i, i < n → g' i = (rdP n L k i).toInt64) : RBJ n f L (k + 1) b g' := rz_y h eb d c (fun i hi => by show (g' i).toInt32 = _; rw [hg i hi]; exact Int32.toInt32_toInt64 _)
theorem rj_p {n L k : Nat} {R : Nat → Int64} {i t : Nat} (e : R i = (rdP n L k i).toInt64) (ht : t < 13) : lbP (R i) t ↔ bitP (rdP n L k i) t := by rw [e]; exact bit_m ht

def q_h_holdAll_f (T : Nat → ClassId) (fa : Nat → Int32) (h0 : Nat) (a0 : Nat) (h1 : Nat) (qx : Int32) (qy : Int32) (ql : Nat) (h2 : Nat) (h3 : Nat) (qp : Nat → Int32) (qc : Nat → Int32) (an : Nat) (am : Int32) (al : Int32) (ao : Int32) (au : Int32) (a1 : Nat) (a2 : Nat) (a3 : Nat) (a4 : Nat) (a5 : Nat) (a6 : Nat) (a7 : Nat) (a8 : Nat) (a9 : Nat) (a10 : Nat) (af1 : Nat → Int32) (af2 : Nat → Int32) (af3 : Nat → Int32) (af4 : Nat → Int32) (af5 : Nat → Int32) (af9 : Nat → Int32) : Option Value → va_W → Prop := fun rr ww => (∃ (g : Nat → Int32), rr = some (.int (nI 1)) ∧ ww = [(h0, .inr (3, [.ref h1, .int qx, .int qy, .int (nI ql), .ref h2, .ref h3])), (h2, .inl (T 0, 10, .inl qp)), (h3, .inl (T 0, 12, .inl g)), (a0, .inr (5, [.int (nI an), .int am, .int al, .int ao, .int au, .ref a1, .ref a2, .ref a3, .ref a4, .ref a5, .ref a6, .ref a7, .ref a8, .ref a9, .ref a10])), (a1, .inl (T 0, 10, .inl af1)), (a2, .inl (T 0, 10, .inl af2)), (a3, .inl (T 0, 10, .inl af3)), (a4, .inl (T 0, 10, .inl af4)), (a5, .inl (T 0, 10, .inl af5)), (a9, .inl (T 0, 10, .inl af9))] ∧ NVR an fa qp ql) ∨ (∃ (g : Nat → Int32), rr = some (.int (nI 0)) ∧ ww = [(h0, .inr (3, [.ref h1, .int qx, .int qy, .int (nI ql), .ref h2, .ref h3])), (h2, .inl (T 0, 10, .inl qp)), (h3, .inl (T 0, 12, .inl g)), (a0, .inr (5, [.int (nI an), .int am, .int al, .int ao, .int au, .ref a1, .ref a2, .ref a3, .ref a4, .ref a5, .ref a6, .ref a7, .ref a8, .ref a9, .ref a10])), (a1, .inl (T 0, 10, .inl af1)), (a2, .inl (T 0, 10, .inl af2)), (a3, .inl (T 0, 10, .inl af3)), (a4, .inl (T 0, 10, .inl af4)), (a5, .inl (T 0, 10, .inl af5)), (a9, .inl (T 0, 10, .inl af9))] ∧ ¬ NVR an fa qp ql)
set_option maxHeartbeats 4000000 in
set_option maxRecDepth 100000 in
theorem h_holdAll_f (l : Launch) (D : va_G) (T : Nat → ClassId) (fa : Nat → Int32) (h0 : Nat) (a0 : Nat) (h1 : Nat) (qx : Int32) (qy : Int32) (ql : Nat) (h2 : Nat) (h3 : Nat) (qp : Nat → Int32) (qc : Nat → Int32) (an : Nat) (am : Int32) (al : Int32) (ao : Int32) (au : Int32) (a1 : Nat) (a2 : Nat) (a3 : Nat) (a4 : Nat) (a5 : Nat) (a6 : Nat) (a7 : Nat) (a8 : Nat) (a9 : Nat) (a10 : Nat) (af1 : Nat → Int32) (af2 : Nat → Int32) (af3 : Nat → Int32) (af4 : Nat → Int32) (af5 : Nat → Int32) (af9 : Nat → Int32) (h_n : an ≤ 10) (h_l : 1 ≤ ql ∧ ql ≤ 12) (h_s1 : ∀ i, i < an → af1 i = fa (4 + i)) (h_s2 : ∀ i, i < an → af2 i = fa (14 + i)) (h_s3 : ∀ i, i < an → af3 i = fa (24 + i)) (h_s4 : ∀ i, i < an → af4 i = fa (34 + i)) (h_s5 : ∀ i, i < an → af5 i = fa (44 + i)) (h_s9 : ∀ i, i < an → af9 i = fa (84 + i)) (h_a : MI an fa) (h_lb : LB fa) : Ct l yX3_holdAll cX3_holdAll 3 (some .boolean) 3 0 0 D T [.ref h0, .ref a0] [(h0, .inr (3, [.ref h1, .int qx, .int qy, .int (nI ql), .ref h2, .ref h3])), (h2, .inl (T 0, 10, .inl qp)), (h3, .inl (T 0, 12, .inl qc)), (a0, .inr (5, [.int (nI an), .int am, .int al, .int ao, .int au, .ref a1, .ref a2, .ref a3, .ref a4, .ref a5, .ref a6, .ref a7, .ref a8, .ref a9, .ref a10])), (a1, .inl (T 0, 10, .inl af1)), (a2, .inl (T 0, 10, .inl af2)), (a3, .inl (T 0, 10, .inl af3)), (a4, .inl (T 0, 10, .inl af4)), (a5, .inl (T 0, 10, .inl af5)), (a9, .inl (T 0, 10, .inl af9))] (q_h_holdAll_f T fa h0 a0 h1 qx qy ql h2 h3 qp qc an am al ao au a1 a2 a3 a4 a5 a6 a7 a8 a9 a10 af1 af2 af3 af4 af5 af9) := by
  refine Ct.of (cc := cX3_holdAll) (maxL := 3) (ret := (some .boolean)) (by decide) (Nat.le_of_ble_eq_true rfl) ?_
  intro p e s m args below meth c A ls hC hnm V hl
  obtain ⟨hx, hb, hr, hml, hown, hts, hlocks⟩ := id hC
  generalize hH : s.heap = H at V ⊢
  clear hH
  have hl : lv_has ls 3 [(0, .ref h0), (1, .ref a0)] := hl
  generalize hlo : ([] : List Loc) = locs at V ⊢
  clear hlo
  refine lv_iconst (v := (nI 0)) hx hb dX3_holdAll_0 (by decide +kernel) ?_
  refine lv_istore_n (lv' := [(2, .int (nI 0)), (0, .ref h0), (1, .ref a0)]) hx hb dX3_holdAll_1 rfl hl (by decide) rfl (fun ls hl => ?_)
  have L_1 : ∀ (fu : Nat) (k2 : Nat) (ga : Nat → Int32), k2 ≤ an → (∀ i, i < k2 → NE an fa qp ql i) → an - k2 < fu → ∀ (H : Heap) (locs : List Loc) (ls : Array Slot), gW D T A s [(h0, .inr (3, [.ref h1, .int qx, .int qy, .int (nI ql), .ref h2, .ref h3])), (h2, .inl (T 0, 10, .inl qp)), (h3, .inl (T 0, 12, .inl ga)), (a0, .inr (5, [.int (nI an), .int am, .int al, .int ao, .int au, .ref a1, .ref a2, .ref a3, .ref a4, .ref a5, .ref a6, .ref a7, .ref a8, .ref a9, .ref a10])), (a1, .inl (T 0, 10, .inl af1)), (a2, .inl (T 0, 10, .inl af2)), (a3, .inl (T 0, 10, .inl af3)), (a4, .inl (T 0, 10, .inl af4)), (a5, .inl (T 0, 10, .inl af5)), (a9, .inl (T 0, 10, .inl af9))] H locs → lv_has ls 3 [(2, .int (nI k2)), (0, .ref h0), (1, .ref a0)] → W p l e (rmD 3 0 0) s m args below meth c H locs 0 0 (MQ below (gQ D A (q_h_holdAll_f T fa h0 a0 h1 qx qy ql h2 h3 qp qc an am al ao au a1 a2 a3 a4 a5 a6 a7 a8 a9 a10 af1 af2 af3 af4 af5 af9)) args s 0 0 A) (F0 m 2 ls []) := by
    intro fu_2
    induction fu_2 with
    | zero => intro k2 ga hk2 hal hmu; exact absurd hmu (Nat.not_lt_zero _)
    | succ fu_2 ih_2 =>
      intro k2 ga hk2 hal hmu_2 H locs ls V hl
      refine lv_iload_n hx hb dX3_holdAll_2 rfl (lv_at hl 0 rfl) ?_
      refine lv_aload_n hx hb dX3_holdAll_3 rfl (lv_at hl 2 rfl) ?_
      refine g_get hC V (ci := 5) uwX5 3 rfl rfl 0 (by decide) w_37 rfl rfl dX3_holdAll_4 ?_
      refine lv_icmp_ge (tgt := 28) hx hb dX3_holdAll_7 (by decide) (fun c_2 => ?_) (fun c_2 => ?_)
      · skip
        have c_2 := b_le (by omega) (by omega) c_2
        refine lv_iconst (v := (nI 1)) hx hb dX3_holdAll_28 (by decide +kernel) ?_
        exact g_zret (Qr := (q_h_holdAll_f T fa h0 a0 h1 qx qy ql h2 h3 qp qc an am al ao au a1 a2 a3 a4 a5 a6 a7 a8 a9 a10 af1 af2 af3 af4 af5 af9)) hC V ⟨(Nat.le_of_ble_eq_true rfl), (Nat.le_of_ble_eq_true rfl)⟩ (by first | decide +kernel | exact rfl) (.inl ⟨ga, rfl, rfl, (fun i hi => hal i (by omega))⟩) dX3_holdAll_29
      · skip
        have c_2 := b_nle (by omega) (by omega) c_2
        refine lv_aload_n hx hb dX3_holdAll_10 rfl (lv_at hl 1 rfl) ?_
        refine lv_aload_n hx hb dX3_holdAll_11 rfl (lv_at hl 2 rfl) ?_
        refine lv_iload_n hx hb dX3_holdAll_12 rfl (lv_at hl 0 rfl) ?_
        refine g_callV (wr := []) (nA := 2) hC V hl.1 (h_breaks_f l D T fa h0 a0 k2 h1 qx qy ql h2 h3 qp ga an am al ao au a1 a2 a3 a4 a5 a6 a7 a8 a9 a10 af1 af2 af3 af4 af5 af9 (by first | assumption | omega) (by first | assumption | omega) (by first | assumption | omega) (by first | assumption | omega) (by first | assumption | omega) (by first | assumption | omega) (by first | assumption | omega) (by first | assumption | omega) (by first | assumption | omega) (by first | assumption | omega) (by first | assumption | omega)) w_614 w_616 w_s18 w_6 w_617 (by decide +kernel) rfl ⟨(Nat.le_of_ble_eq_true rfl), (Nat.le_of_ble_eq_true rfl)⟩ 0 (ci := 3) rfl rfl [0, 1, 2, 3, 4, 5, 6, 7, 8, 9] [] rfl rfl rfl rfl (by decide) (Nat.le_of_ble_eq_true rfl) dX3_holdAll_13 ⟨(Nat.le_of_ble_eq_true rfl), (Nat.le_of_ble_eq_true rfl)⟩ rfl (fun r w1 H locs hQ V => ?_)
        obtain ⟨z_3, g_4, rfl, rfl, f_5⟩ := hQ
        have V : gW D T A s [(h0, .inr (3, [.ref h1, .int qx, .int qy, .int (nI ql), .ref h2, .ref h3])), (h2, .inl (T 0, 10, .inl qp)), (h3, .inl (T 0, 12, .inl g_4)), (a0, .inr (5, [.int (nI an), .int am, .int al, .int ao, .int au, .ref a1, .ref a2, .ref a3, .ref a4, .ref a5, .ref a6, .ref a7, .ref a8, .ref a9, .ref a10])), (a1, .inl (T 0, 10, .inl af1)), (a2, .inl (T 0, 10, .inl af2)), (a3, .inl (T 0, 10, .inl af3)), (a4, .inl (T 0, 10, .inl af4)), (a5, .inl (T 0, 10, .inl af5)), (a9, .inl (T 0, 10, .inl af9))] H locs := V
        show W p l e _ s m args below meth c H locs _ _ _ (F0 m 16 ls [.int z_3])
        refine lv_iconst (v := (-1)) hx hb dX3_holdAll_16 (by decide +kernel) ?_
        refine lv_icmp_eq (tgt := 22) hx hb dX3_holdAll_17 (by decide) (fun c_6 => ?_) (fun c_6 => ?_)
        · skip
          have hne := bh_ne f_5 c_6
          refine lv_iinc (v := (nI (k2 + 1))) (lv' := [(2, .int (nI (k2 + 1))), (0, .ref h0), (1, .ref a0)]) hx hb dX3_holdAll_22 hl (k := 0) rfl (nI_1 _) (by decide) rfl (fun ls hl => ?_)
          refine lv_goto (tgt := 2) hx hb dX3_holdAll_25 (by decide) ?_
          exact ih_2 (k2 + 1) g_4 (by omega) (fun i hi => if q : i = k2 then by rw [q]; exact hne else hal i (by omega)) (by omega) _ _ _ V (lv_sub hl [0, 1, 2] rfl)
        · skip
          refine lv_iconst (v := (nI 0)) hx hb dX3_holdAll_20 (by decide +kernel) ?_
          exact g_zret (Qr := (q_h_holdAll_f T fa h0 a0 h1 qx qy ql h2 h3 qp qc an am al ao au a1 a2 a3 a4 a5 a6 a7 a8 a9 a10 af1 af2 af3 af4 af5 af9)) hC V ⟨(Nat.le_of_ble_eq_true rfl), (Nat.le_of_ble_eq_true rfl)⟩ (by first | decide +kernel | exact rfl) (.inr ⟨g_4, rfl, rfl, (fun q => bh_bk f_5 c_6 (q k2 (by omega)))⟩) dX3_holdAll_21
  exact L_1 _ 0 qc (by omega) (fun i h => absurd h (Nat.not_lt_zero _)) (Nat.lt_succ_self _) _ _ _ V (lv_sub hl [0, 1, 2] rfl)

def q_h_seekBest_f (T : Nat → ClassId) (fa : Nat → Int32) (h0 : Nat) (a0 : Nat) (le : Nat) (h1 : Nat) (qx : Int32) (qy : Int32) (ql : Int32) (h2 : Nat) (h3 : Nat) (qb : Nat → Int32) (qp : Nat → Int32) (qc : Nat → Int32) (an : Nat) (am : Int32) (al : Int32) (ao : Int32) (au : Int32) (a1 : Nat) (a2 : Nat) (a3 : Nat) (a4 : Nat) (a5 : Nat) (a6 : Nat) (a7 : Nat) (a8 : Nat) (a9 : Nat) (a10 : Nat) (af1 : Nat → Int32) (af2 : Nat → Int32) (af3 : Nat → Int32) (af4 : Nat → Int32) (af5 : Nat → Int32) (af9 : Nat → Int32) : Option Value → va_W → Prop := fun rr ww => (∃ (z : Int32) (g1 : Nat → Int32) (g2 : Nat → Int32) (g3 : Nat → Int32), rr = some (.int z) ∧ ww = [(h0, .inr (3, [.ref h1, .int qx, .int qy, .int (nI le), .ref h2, .ref h3])), (h1, .inl (T 0, 10, .inl g1)), (h2, .inl (T 0, 10, .inl g2)), (h3, .inl (T 0, 12, .inl g3)), (a0, .inr (5, [.int (nI an), .int am, .int al, .int ao, .int au, .ref a1, .ref a2, .ref a3, .ref a4, .ref a5, .ref a6, .ref a7, .ref a8, .ref a9, .ref a10])), (a1, .inl (T 0, 10, .inl af1)), (a2, .inl (T 0, 10, .inl af2)), (a3, .inl (T 0, 10, .inl af3)), (a4, .inl (T 0, 10, .inl af4)), (a5, .inl (T 0, 10, .inl af5)), (a9, .inl (T 0, 10, .inl af9))] ∧ z = (rbF an fa le (2 ^ (an * le))).1 ∧ (¬ z = -1 → ∀ i, i < an → g1 i = rdP an le (rbF an fa le (2 ^ (an * le))).2 i))
set_option maxHeartbeats 4000000 in
set_option maxRecDepth 100000 in
theorem h_seekBest_f (l : Launch) (D : va_G) (T : Nat → ClassId) (fa : Nat → Int32) (h0 : Nat) (a0 : Nat) (le : Nat) (h1 : Nat) (qx : Int32) (qy : Int32) (ql : Int32) (h2 : Nat) (h3 : Nat) (qb : Nat → Int32) (qp : Nat → Int32) (qc : Nat → Int32) (an : Nat) (am : Int32) (al : Int32) (ao : Int32) (au : Int32) (a1 : Nat) (a2 : Nat) (a3 : Nat) (a4 : Nat) (a5 : Nat) (a6 : Nat) (a7 : Nat) (a8 : Nat) (a9 : Nat) (a10 : Nat) (af1 : Nat → Int32) (af2 : Nat → Int32) (af3 : Nat → Int32) (af4 : Nat → Int32) (af5 : Nat → Int32) (af9 : Nat → Int32) (h_n : an ≤ 10) (h_l : 1 ≤ le ∧ le ≤ 12) (h_m : an * le ≤ 10) (h_s1 : ∀ i, i < an → af1 i = fa (4 + i)) (h_s2 : ∀ i, i < an → af2 i = fa (14 + i)) (h_s3 : ∀ i, i < an → af3 i = fa (24 + i)) (h_s4 : ∀ i, i < an → af4 i = fa (34 + i)) (h_s5 : ∀ i, i < an → af5 i = fa (44 + i)) (h_s9 : ∀ i, i < an → af9 i = fa (84 + i)) (h_a : MI an fa) (h_lb : LB fa) : Ct l yX3_seekBestRound cX3_seekBestRound 7 (some .int) 4 0 0 D T [.ref h0, .ref a0, .int (nI le)] [(h0, .inr (3, [.ref h1, .int qx, .int qy, .int ql, .ref h2, .ref h3])), (h1, .inl (T 0, 10, .inl qb)), (h2, .inl (T 0, 10, .inl qp)), (h3, .inl (T 0, 12, .inl qc)), (a0, .inr (5, [.int (nI an), .int am, .int al, .int ao, .int au, .ref a1, .ref a2, .ref a3, .ref a4, .ref a5, .ref a6, .ref a7, .ref a8, .ref a9, .ref a10])), (a1, .inl (T 0, 10, .inl af1)), (a2, .inl (T 0, 10, .inl af2)), (a3, .inl (T 0, 10, .inl af3)), (a4, .inl (T 0, 10, .inl af4)), (a5, .inl (T 0, 10, .inl af5)), (a9, .inl (T 0, 10, .inl af9))] (q_h_seekBest_f T fa h0 a0 le h1 qx qy ql h2 h3 qb qp qc an am al ao au a1 a2 a3 a4 a5 a6 a7 a8 a9 a10 af1 af2 af3 af4 af5 af9) := by
  refine Ct.of (cc := cX3_seekBestRound) (maxL := 7) (ret := (some .int)) (by decide) (Nat.le_of_ble_eq_true rfl) ?_
  intro p e s m args below meth c A ls hC hnm V hl
  obtain ⟨hx, hb, hr, hml, hown, hts, hlocks⟩ := id hC
  generalize hH : s.heap = H at V ⊢
  clear hH
  have hl : lv_has ls 7 [(0, .ref h0), (1, .ref a0), (2, .int (nI le))] := hl
  generalize hlo : ([] : List Loc) = locs at V ⊢
  clear hlo
  have hpw := pw10 h_m
  refine lv_aload_n hx hb dX3_seekBestRound_0 rfl (lv_at hl 0 rfl) ?_
  refine lv_iload_n hx hb dX3_seekBestRound_1 rfl (lv_at hl 2 rfl) ?_
  refine g_put hC V (ci := 3) uwX3 tyX3 tyX3_ok nmX3 0 rfl rfl 3 (by decide) w_189 rfl rfl rfl rfl (Nat.le_of_ble_eq_true rfl) (ws' := [(h0, .inr (3, [.ref h1, .int qx, .int qy, .int (nI le), .ref h2, .ref h3])), (h1, .inl (T 0, 10, .inl qb)), (h2, .inl (T 0, 10, .inl qp)), (h3, .inl (T 0, 12, .inl qc)), (a0, .inr (5, [.int (nI an), .int am, .int al, .int ao, .int au, .ref a1, .ref a2, .ref a3, .ref a4, .ref a5, .ref a6, .ref a7, .ref a8, .ref a9, .ref a10])), (a1, .inl (T 0, 10, .inl af1)), (a2, .inl (T 0, 10, .inl af2)), (a3, .inl (T 0, 10, .inl af3)), (a4, .inl (T 0, 10, .inl af4)), (a5, .inl (T 0, 10, .inl af5)), (a9, .inl (T 0, 10, .inl af9))]) rfl dX3_seekBestRound_2 (fun H locs V => ?_)
  refine lv_iconst (v := (-1)) hx hb dX3_seekBestRound_5 (by decide +kernel) ?_
  refine lv_istore_n (lv' := [(3, .int (-1)), (0, .ref h0), (1, .ref a0), (2, .int (nI le))]) hx hb dX3_seekBestRound_6 rfl hl (by decide) rfl (fun ls hl => ?_)
  refine lv_iconst (v := (nI 0)) hx hb dX3_seekBestRound_7 (by decide +kernel) ?_
  refine lv_istore (lv' := [(4, .int (nI 0)), (3, .int (-1)), (0, .ref h0), (1, .ref a0), (2, .int (nI le))]) hx hb dX3_seekBestRound_8 hl (by decide) rfl (fun ls hl => ?_)
  have L_1 : ∀ (fu : Nat) (k10 : Nat) (x3 : Int32) (ga : Nat → Int32) (gb : Nat → Int32) (gc : Nat → Int32), k10 ≤ 2 ^ (an * le) → RBI an fa le k10 x3 ga → 2 ^ (an * le) - k10 < fu → ∀ (H : Heap) (locs : List Loc) (ls : Array Slot), gW D T A s [(h0, .inr (3, [.ref h1, .int qx, .int qy, .int (nI le), .ref h2, .ref h3])), (h1, .inl (T 0, 10, .inl ga)), (h2, .inl (T 0, 10, .inl gb)), (h3, .inl (T 0, 12, .inl gc)), (a0, .inr (5, [.int (nI an), .int am, .int al, .int ao, .int au, .ref a1, .ref a2, .ref a3, .ref a4, .ref a5, .ref a6, .ref a7, .ref a8, .ref a9, .ref a10])), (a1, .inl (T 0, 10, .inl af1)), (a2, .inl (T 0, 10, .inl af2)), (a3, .inl (T 0, 10, .inl af3)), (a4, .inl (T 0, 10, .inl af4)), (a5, .inl (T 0, 10, .inl af5)), (a9, .inl (T 0, 10, .inl af9))] H locs → lv_has ls 7 [(4, .int (nI k10)), (3, .int x3), (0, .ref h0), (1, .ref a0), (2, .int (nI le))] → W p l e (rmD 4 0 0) s m args below meth c H locs 0 0 (MQ below (gQ D A (q_h_seekBest_f T fa h0 a0 le h1 qx qy ql h2 h3 qb qp qc an am al ao au a1 a2 a3 a4 a5 a6 a7 a8 a9 a10 af1 af2 af3 af4 af5 af9)) args s 0 0 A) (F0 m 10 ls []) := by
    intro fu_10
    induction fu_10 with
    | zero => intro k10 x3 ga gb gc hk10 hR hmu; exact absurd hmu (Nat.not_lt_zero _)
    | succ fu_10 ih_10 =>
      intro k10 x3 ga gb gc hk10 hR hmu_10 H locs ls V hl
      refine lv_iload hx hb dX3_seekBestRound_10 (lv_at hl 0 rfl) ?_
      refine lv_iconst (v := (nI 1)) hx hb dX3_seekBestRound_12 (by decide +kernel) ?_
      refine lv_aload_n hx hb dX3_seekBestRound_13 rfl (lv_at hl 3 rfl) ?_
      refine g_get hC V (ci := 5) uwX5 4 rfl rfl 0 (by decide) w_37 rfl rfl dX3_seekBestRound_14 ?_
      refine lv_aload_n hx hb dX3_seekBestRound_17 rfl (lv_at hl 2 rfl) ?_
      refine g_get hC V (ci := 3) uwX3 0 rfl rfl 3 (by decide) w_189 rfl rfl dX3_seekBestRound_18 ?_
      refine lv_imul hx hb dX3_seekBestRound_21 ?_
      refine g_vi (y := (nI (an * le))) (pk_mul _ _) ?_
      refine lv_ishl hx hb dX3_seekBestRound_22 ?_
      refine g_vi (y := (nI (2 ^ (an * le)))) (shl_pow (by omega)) ?_
      refine lv_icmp_ge (tgt := 126) hx hb dX3_seekBestRound_23 (by decide) (fun c_2 => ?_) (fun c_2 => ?_)
      · skip
        have c_2 := b_le (by omega) (by omega) c_2
        refine lv_iload_n hx hb dX3_seekBestRound_126 rfl (lv_at hl 1 rfl) ?_
        exact g_iret (Qr := (q_h_seekBest_f T fa h0 a0 le h1 qx qy ql h2 h3 qb qp qc an am al ao au a1 a2 a3 a4 a5 a6 a7 a8 a9 a10 af1 af2 af3 af4 af5 af9)) hC V ⟨(Nat.le_of_ble_eq_true rfl), (Nat.le_of_ble_eq_true rfl)⟩ ⟨x3, ga, gb, gc, rfl, rfl, (rz_f1 hR (by omega)), (rz_f2 hR (by omega))⟩ dX3_seekBestRound_127
      · skip
        have c_2 := b_nle (by omega) (by omega) c_2
        refine lv_iload hx hb dX3_seekBestRound_26 (lv_at hl 0 rfl) ?_
        refine g_callSU (nA := 1) hC V hl.1 (c_bitCount_f l D T (nI k10)) w_660 w_661 w_16 w_662 (by decide +kernel) rfl ⟨(Nat.le_of_ble_eq_true rfl), (Nat.le_of_ble_eq_true rfl)⟩ [] rfl rfl (Nat.le_of_ble_eq_true rfl) dX3_seekBestRound_28 ⟨(Nat.le_of_ble_eq_true rfl), (Nat.le_of_ble_eq_true rfl)⟩ rfl (fun r w1 H locs hQ V => ?_)
        obtain ⟨z_3, rfl, rfl, f_4⟩ := hQ
        have V : gW D T A s [(h0, .inr (3, [.ref h1, .int qx, .int qy, .int (nI le), .ref h2, .ref h3])), (h1, .inl (T 0, 10, .inl ga)), (h2, .inl (T 0, 10, .inl gb)), (h3, .inl (T 0, 12, .inl gc)), (a0, .inr (5, [.int (nI an), .int am, .int al, .int ao, .int au, .ref a1, .ref a2, .ref a3, .ref a4, .ref a5, .ref a6, .ref a7, .ref a8, .ref a9, .ref a10])), (a1, .inl (T 0, 10, .inl af1)), (a2, .inl (T 0, 10, .inl af2)), (a3, .inl (T 0, 10, .inl af3)), (a4, .inl (T 0, 10, .inl af4)), (a5, .inl (T 0, 10, .inl af5)), (a9, .inl (T 0, 10, .inl af9))] H locs := V _ [] rfl rfl rfl (by decide +kernel) rfl
        show W p l e _ s m args below meth c H locs _ _ _ (F0 m 31 ls [.int z_3])
        have hbc : z_3 = btS (nI k10) 10 := f_4.trans (bc_all 10 (by decide) k10 (by omega))
        refine lv_istore (lv' := [(5, .int z_3), (4, .int (nI k10)), (3, .int x3), (0, .ref h0), (1, .ref a0), (2, .int (nI le))]) hx hb dX3_seekBestRound_31 hl (by decide) rfl (fun ls hl => ?_)
        refine lv_iload_n hx hb dX3_seekBestRound_33 rfl (lv_at hl 2 rfl) ?_
        refine lv_iconst (v := (-1)) hx hb dX3_seekBestRound_34 (by decide +kernel) ?_
        refine lv_icmp_eq (tgt := 47) hx hb dX3_seekBestRound_35 (by decide) (fun c_5 => ?_) (fun c_5 => ?_)
        · skip
          refine lv_iconst (v := (nI 0)) hx hb dX3_seekBestRound_47 (by decide +kernel) ?_
          refine lv_istore (lv' := [(6, .int (nI 0)), (5, .int z_3), (4, .int (nI k10)), (3, .int x3), (0, .ref h0), (1, .ref a0), (2, .int (nI le))]) hx hb dX3_seekBestRound_48 hl (by decide) rfl (fun ls hl => ?_)
          have L_6 : ∀ (fu : Nat) (k50 : Nat) (gd : Nat → Int32), k50 ≤ an → (∀ i, i < k50 → gd i = rdP an le k10 i) → an - k50 < fu → ∀ (H : Heap) (locs : List Loc) (ls : Array Slot), gW D T A s [(h0, .inr (3, [.ref h1, .int qx, .int qy, .int (nI le), .ref h2, .ref h3])), (h1, .inl (T 0, 10, .inl ga)), (h2, .inl (T 0, 10, .inl gd)), (h3, .inl (T 0, 12, .inl gc)), (a0, .inr (5, [.int (nI an), .int am, .int al, .int ao, .int au, .ref a1, .ref a2, .ref a3, .ref a4, .ref a5, .ref a6, .ref a7, .ref a8, .ref a9, .ref a10])), (a1, .inl (T 0, 10, .inl af1)), (a2, .inl (T 0, 10, .inl af2)), (a3, .inl (T 0, 10, .inl af3)), (a4, .inl (T 0, 10, .inl af4)), (a5, .inl (T 0, 10, .inl af5)), (a9, .inl (T 0, 10, .inl af9))] H locs → lv_has ls 7 [(6, .int (nI k50)), (5, .int z_3), (4, .int (nI k10)), (3, .int x3), (0, .ref h0), (1, .ref a0), (2, .int (nI le))] → W p l e (rmD 4 0 0) s m args below meth c H locs 0 0 (MQ below (gQ D A (q_h_seekBest_f T fa h0 a0 le h1 qx qy ql h2 h3 qb qp qc an am al ao au a1 a2 a3 a4 a5 a6 a7 a8 a9 a10 af1 af2 af3 af4 af5 af9)) args s 0 0 A) (F0 m 50 ls []) := by
            intro fu_50
            induction fu_50 with
            | zero => intro k50 gd hk50 hgd hmu; exact absurd hmu (Nat.not_lt_zero _)
            | succ fu_50 ih_50 =>
              intro k50 gd hk50 hgd hmu_50 H locs ls V hl
              refine lv_iload hx hb dX3_seekBestRound_50 (lv_at hl 0 rfl) ?_
              refine lv_aload_n hx hb dX3_seekBestRound_52 rfl (lv_at hl 5 rfl) ?_
              refine g_get hC V (ci := 5) uwX5 4 rfl rfl 0 (by decide) w_37 rfl rfl dX3_seekBestRound_53 ?_
              refine lv_icmp_ge (tgt := 94) hx hb dX3_seekBestRound_56 (by decide) (fun c_7 => ?_) (fun c_7 => ?_)
              · skip
                have c_7 := b_le (by omega) (by omega) c_7
                refine lv_aload_n hx hb dX3_seekBestRound_94 rfl (lv_at hl 4 rfl) ?_
                refine lv_aload_n hx hb dX3_seekBestRound_95 rfl (lv_at hl 5 rfl) ?_
                refine g_callVU (nA := 1) hC V hl.1 (h_holdAll_f l D T fa h0 a0 h1 qx qy le h2 h3 gd gc an am al ao au a1 a2 a3 a4 a5 a6 a7 a8 a9 a10 af1 af2 af3 af4 af5 af9 (by first | assumption | omega) ⟨by omega, by omega⟩ h_s1 h_s2 h_s3 h_s4 h_s5 h_s9 h_a h_lb) w_666 w_668 w_s21 w_6 w_669 (by decide +kernel) rfl ⟨(Nat.le_of_ble_eq_true rfl), (Nat.le_of_ble_eq_true rfl)⟩ 0 (ci := 3) rfl rfl [0, 2, 3, 4, 5, 6, 7, 8, 9, 10] rfl rfl (Nat.le_of_ble_eq_true rfl) dX3_seekBestRound_96 ⟨(Nat.le_of_ble_eq_true rfl), (Nat.le_of_ble_eq_true rfl)⟩ rfl (fun r w1 H locs hQ V => ?_)
                rcases hQ with ⟨g_8, rfl, rfl, f_9⟩ | ⟨g_10, rfl, rfl, f_11⟩
                · have V : gW D T A s [(h0, .inr (3, [.ref h1, .int qx, .int qy, .int (nI le), .ref h2, .ref h3])), (h1, .inl (T 0, 10, .inl ga)), (h2, .inl (T 0, 10, .inl gd)), (h3, .inl (T 0, 12, .inl g_8)), (a0, .inr (5, [.int (nI an), .int am, .int al, .int ao, .int au, .ref a1, .ref a2, .ref a3, .ref a4, .ref a5, .ref a6, .ref a7, .ref a8, .ref a9, .ref a10])), (a1, .inl (T 0, 10, .inl af1)), (a2, .inl (T 0, 10, .inl af2)), (a3, .inl (T 0, 10, .inl af3)), (a4, .inl (T 0, 10, .inl af4)), (a5, .inl (T 0, 10, .inl af5)), (a9, .inl (T 0, 10, .inl af9))] H locs := V _ [0, 1, 0, 0, 0, 0, 0, 0, 0, 0] rfl rfl rfl (by decide +kernel) rfl
                  show W p l e _ s m args below meth c H locs _ _ _ (F0 m 99 ls [.int (nI 1)])
                  refine lv_if_eq (tgt := 120) hx hb dX3_seekBestRound_99 (by decide) (fun c => absurd (show (nI 1) = 0 from c) (by decide +kernel)) (fun _ => ?_)
                  refine lv_iload hx hb dX3_seekBestRound_102 (lv_at hl 1 rfl) ?_
                  refine lv_istore_n (lv' := [(3, .int z_3), (6, .int (nI k50)), (5, .int z_3), (4, .int (nI k10)), (0, .ref h0), (1, .ref a0), (2, .int (nI le))]) hx hb dX3_seekBestRound_104 rfl hl (by decide) rfl (fun ls hl => ?_)
                  refine lv_aload_n hx hb dX3_seekBestRound_105 rfl (lv_at hl 4 rfl) ?_
                  refine g_get hC V (ci := 3) uwX3 0 rfl rfl 4 (by decide) w_190 rfl rfl dX3_seekBestRound_106 ?_
                  refine lv_iconst (v := (nI 0)) hx hb dX3_seekBestRound_109 (by decide +kernel) ?_
                  refine lv_aload_n hx hb dX3_seekBestRound_110 rfl (lv_at hl 4 rfl) ?_
                  refine g_get hC V (ci := 3) uwX3 0 rfl rfl 0 (by decide) w_183 rfl rfl dX3_seekBestRound_111 ?_
                  refine lv_iconst (v := (nI 0)) hx hb dX3_seekBestRound_114 (by decide +kernel) ?_
                  refine lv_bipush (v := (nI 10)) hx hb dX3_seekBestRound_115 (by decide +kernel) ?_
                  refine g_copyf hC V hl.1 w_670 w_672 w_671 w_17 2 1 rfl rfl (by decide +kernel) (by decide +kernel) (Nat.le_of_ble_eq_true rfl) (Nat.le_of_ble_eq_true rfl) (Nat.le_of_ble_eq_true rfl) dX3_seekBestRound_117 10 (by decide +kernel) (fun g_12 hcp H locs V => ?_)
                  have V : gW D T A s [(h0, .inr (3, [.ref h1, .int qx, .int qy, .int (nI le), .ref h2, .ref h3])), (h1, .inl (T 0, 10, .inl g_12)), (h2, .inl (T 0, 10, .inl gd)), (h3, .inl (T 0, 12, .inl g_8)), (a0, .inr (5, [.int (nI an), .int am, .int al, .int ao, .int au, .ref a1, .ref a2, .ref a3, .ref a4, .ref a5, .ref a6, .ref a7, .ref a8, .ref a9, .ref a10])), (a1, .inl (T 0, 10, .inl af1)), (a2, .inl (T 0, 10, .inl af2)), (a3, .inl (T 0, 10, .inl af3)), (a4, .inl (T 0, 10, .inl af4)), (a5, .inl (T 0, 10, .inl af5)), (a9, .inl (T 0, 10, .inl af9))] H locs := V
                  refine lv_iinc (v := (nI (k10 + 1))) (lv' := [(4, .int (nI (k10 + 1))), (3, .int z_3), (6, .int (nI k50)), (5, .int z_3), (0, .ref h0), (1, .ref a0), (2, .int (nI le))]) hx hb dX3_seekBestRound_120 hl (k := 3) rfl (nI_1 _) (by decide) rfl (fun ls hl => ?_)
                  refine lv_goto (tgt := 10) hx hb dX3_seekBestRound_123 (by decide) ?_
                  exact ih_10 (k10 + 1) z_3 g_12 gd g_8 (by omega) (rz_y hR hbc (Or.inl c_5) ((nvr_ext (by omega) (fun i hi t _ => iff_of_eq (congrArg (fun x => bitP x t) (hgd i (by omega))))).mp f_9) (fun i hi => (hcp i (by omega)).trans (hgd i (by omega)))) (by omega) _ _ _ V (lv_sub hl [0, 1, 4, 5, 6] rfl)
                · have V : gW D T A s [(h0, .inr (3, [.ref h1, .int qx, .int qy, .int (nI le), .ref h2, .ref h3])), (h1, .inl (T 0, 10, .inl ga)), (h2, .inl (T 0, 10, .inl gd)), (h3, .inl (T 0, 12, .inl g_10)), (a0, .inr (5, [.int (nI an), .int am, .int al, .int ao, .int au, .ref a1, .ref a2, .ref a3, .ref a4, .ref a5, .ref a6, .ref a7, .ref a8, .ref a9, .ref a10])), (a1, .inl (T 0, 10, .inl af1)), (a2, .inl (T 0, 10, .inl af2)), (a3, .inl (T 0, 10, .inl af3)), (a4, .inl (T 0, 10, .inl af4)), (a5, .inl (T 0, 10, .inl af5)), (a9, .inl (T 0, 10, .inl af9))] H locs := V _ [0, 1, 0, 0, 0, 0, 0, 0, 0, 0] rfl rfl rfl (by decide +kernel) rfl
                  show W p l e _ s m args below meth c H locs _ _ _ (F0 m 99 ls [.int (nI 0)])
                  refine lv_if_eq (tgt := 120) hx hb dX3_seekBestRound_99 (by decide) (fun _ => ?_) (fun c => absurd (show (nI 0) = 0 by decide +kernel) c)
                  refine lv_iinc (v := (nI (k10 + 1))) (lv' := [(4, .int (nI (k10 + 1))), (6, .int (nI k50)), (5, .int z_3), (3, .int x3), (0, .ref h0), (1, .ref a0), (2, .int (nI le))]) hx hb dX3_seekBestRound_120 hl (k := 2) rfl (nI_1 _) (by decide) rfl (fun ls hl => ?_)
                  refine lv_goto (tgt := 10) hx hb dX3_seekBestRound_123 (by decide) ?_
                  exact ih_10 (k10 + 1) x3 ga gd g_10 (by omega) (rz_s2 hR (fun q => f_11 ((nvr_ext (by omega) (fun i hi t _ => iff_of_eq (congrArg (fun x => bitP x t) (hgd i (by omega))))).mpr q))) (by omega) _ _ _ V (lv_sub hl [0, 3, 4, 5, 6] rfl)
              · skip
                have c_7 := b_nle (by omega) (by omega) c_7
                refine lv_aload_n hx hb dX3_seekBestRound_59 rfl (lv_at hl 4 rfl) ?_
                refine g_get hC V (ci := 3) uwX3 0 rfl rfl 4 (by decide) w_190 rfl rfl dX3_seekBestRound_60 ?_
                refine lv_iload hx hb dX3_seekBestRound_63 (lv_at hl 0 rfl) ?_
                refine lv_iload hx hb dX3_seekBestRound_65 (lv_at hl 2 rfl) ?_
                refine lv_aload_n hx hb dX3_seekBestRound_67 rfl (lv_at hl 5 rfl) ?_
                refine g_get hC V (ci := 5) uwX5 4 rfl rfl 0 (by decide) w_37 rfl rfl dX3_seekBestRound_68 ?_
                refine lv_iconst (v := (nI 1)) hx hb dX3_seekBestRound_71 (by decide +kernel) ?_
                refine lv_isub hx hb dX3_seekBestRound_72 ?_
                refine g_vi (y := (nI (an - 1))) (nI_sub (by omega)) ?_
                refine lv_iload hx hb dX3_seekBestRound_73 (lv_at hl 0 rfl) ?_
                refine lv_isub hx hb dX3_seekBestRound_75 ?_
                refine g_vi (y := (nI ((an - 1) - k50))) (nI_sub (by omega)) ?_
                refine lv_aload_n hx hb dX3_seekBestRound_76 rfl (lv_at hl 4 rfl) ?_
                refine g_get hC V (ci := 3) uwX3 0 rfl rfl 3 (by decide) w_189 rfl rfl dX3_seekBestRound_77 ?_
                refine lv_imul hx hb dX3_seekBestRound_80 ?_
                refine g_vi (y := (nI (((an - 1) - k50) * le))) (pk_mul _ _) ?_
                refine lv_ishr hx hb dX3_seekBestRound_81 ?_
                refine lv_aload_n hx hb dX3_seekBestRound_82 rfl (lv_at hl 4 rfl) ?_
                refine g_callVU (nA := 0) hC V hl.1 (h_everyTime_f l D T h0 h1 qx qy le h2 h3 ⟨by omega, by omega⟩) w_606 w_608 w_s17 w_6 w_609 (by decide +kernel) rfl ⟨(Nat.le_of_ble_eq_true rfl), (Nat.le_of_ble_eq_true rfl)⟩ 0 (ci := 3) rfl rfl [0] rfl rfl (Nat.le_of_ble_eq_true rfl) dX3_seekBestRound_83 ⟨(Nat.le_of_ble_eq_true rfl), (Nat.le_of_ble_eq_true rfl)⟩ rfl (fun r w1 H locs hQ V => ?_)
                obtain ⟨rfl, rfl⟩ := hQ
                have V : gW D T A s [(h0, .inr (3, [.ref h1, .int qx, .int qy, .int (nI le), .ref h2, .ref h3])), (h1, .inl (T 0, 10, .inl ga)), (h2, .inl (T 0, 10, .inl gd)), (h3, .inl (T 0, 12, .inl gc)), (a0, .inr (5, [.int (nI an), .int am, .int al, .int ao, .int au, .ref a1, .ref a2, .ref a3, .ref a4, .ref a5, .ref a6, .ref a7, .ref a8, .ref a9, .ref a10])), (a1, .inl (T 0, 10, .inl af1)), (a2, .inl (T 0, 10, .inl af2)), (a3, .inl (T 0, 10, .inl af3)), (a4, .inl (T 0, 10, .inl af4)), (a5, .inl (T 0, 10, .inl af5)), (a9, .inl (T 0, 10, .inl af9))] H locs := V _ [0] rfl rfl rfl (by decide +kernel) rfl
                show W p l e _ s m args below meth c H locs _ _ _ (F0 m 86 ls [.int (nI (2 ^ le - 1)), .int ((nI k10) >>> ((nI (((an - 1) - k50) * le)) &&& 31)), .int (nI k50), .ref h2])
                refine lv_iand hx hb dX3_seekBestRound_86 ?_
                refine g_iast hC V 2 rfl (vp_in_nI (by omega) (by omega)) (f' := (upd gd k50 (((nI k10) >>> ((nI (((an - 1) - k50) * le)) &&& 31)) &&& (nI (2 ^ le - 1))))) (by rw [nI_clamp (by omega)]) (ws' := [(h0, .inr (3, [.ref h1, .int qx, .int qy, .int (nI le), .ref h2, .ref h3])), (h1, .inl (T 0, 10, .inl ga)), (h2, .inl (T 0, 10, .inl (upd gd k50 (((nI k10) >>> ((nI (((an - 1) - k50) * le)) &&& 31)) &&& (nI (2 ^ le - 1)))))), (h3, .inl (T 0, 12, .inl gc)), (a0, .inr (5, [.int (nI an), .int am, .int al, .int ao, .int au, .ref a1, .ref a2, .ref a3, .ref a4, .ref a5, .ref a6, .ref a7, .ref a8, .ref a9, .ref a10])), (a1, .inl (T 0, 10, .inl af1)), (a2, .inl (T 0, 10, .inl af2)), (a3, .inl (T 0, 10, .inl af3)), (a4, .inl (T 0, 10, .inl af4)), (a5, .inl (T 0, 10, .inl af5)), (a9, .inl (T 0, 10, .inl af9))]) rfl dX3_seekBestRound_87 (fun H locs V => ?_)
                refine lv_iinc (v := (nI (k50 + 1))) (lv' := [(6, .int (nI (k50 + 1))), (5, .int z_3), (4, .int (nI k10)), (3, .int x3), (0, .ref h0), (1, .ref a0), (2, .int (nI le))]) hx hb dX3_seekBestRound_88 hl (k := 0) rfl (nI_1 _) (by decide) rfl (fun ls hl => ?_)
                refine lv_goto (tgt := 50) hx hb dX3_seekBestRound_91 (by decide) ?_
                exact ih_50 (k50 + 1) (upd gd k50 (((nI k10) >>> ((nI (((an - 1) - k50) * le)) &&& 31)) &&& (nI (2 ^ le - 1)))) (by omega) (up_one (p := fun i x => x = rdP an le k10 i) hgd rfl) (by omega) _ _ _ V (lv_sub hl [0, 1, 2, 3, 4, 5, 6] rfl)
          exact L_6 _ 0 gb (by omega) (fun i h => absurd h (Nat.not_lt_zero _)) (Nat.lt_succ_self _) _ _ _ V (lv_sub hl [0, 1, 2, 3, 4, 5, 6] rfl)
        · skip
          refine lv_iload hx hb dX3_seekBestRound_38 (lv_at hl 0 rfl) ?_
          refine lv_iload_n hx hb dX3_seekBestRound_40 rfl (lv_at hl 2 rfl) ?_
          refine lv_icmp_lt (tgt := 47) hx hb dX3_seekBestRound_41 (by decide) (fun c_13 => ?_) (fun c_13 => ?_)
          · skip
            refine lv_iconst (v := (nI 0)) hx hb dX3_seekBestRound_47 (by decide +kernel) ?_
            refine lv_istore (lv' := [(6, .int (nI 0)), (5, .int z_3), (4, .int (nI k10)), (3, .int x3), (0, .ref h0), (1, .ref a0), (2, .int (nI le))]) hx hb dX3_seekBestRound_48 hl (by decide) rfl (fun ls hl => ?_)
            have L_14 : ∀ (fu : Nat) (k50 : Nat) (gd : Nat → Int32), k50 ≤ an → (∀ i, i < k50 → gd i = rdP an le k10 i) → an - k50 < fu → ∀ (H : Heap) (locs : List Loc) (ls : Array Slot), gW D T A s [(h0, .inr (3, [.ref h1, .int qx, .int qy, .int (nI le), .ref h2, .ref h3])), (h1, .inl (T 0, 10, .inl ga)), (h2, .inl (T 0, 10, .inl gd)), (h3, .inl (T 0, 12, .inl gc)), (a0, .inr (5, [.int (nI an), .int am, .int al, .int ao, .int au, .ref a1, .ref a2, .ref a3, .ref a4, .ref a5, .ref a6, .ref a7, .ref a8, .ref a9, .ref a10])), (a1, .inl (T 0, 10, .inl af1)), (a2, .inl (T 0, 10, .inl af2)), (a3, .inl (T 0, 10, .inl af3)), (a4, .inl (T 0, 10, .inl af4)), (a5, .inl (T 0, 10, .inl af5)), (a9, .inl (T 0, 10, .inl af9))] H locs → lv_has ls 7 [(6, .int (nI k50)), (5, .int z_3), (4, .int (nI k10)), (3, .int x3), (0, .ref h0), (1, .ref a0), (2, .int (nI le))] → W p l e (rmD 4 0 0) s m args below meth c H locs 0 0 (MQ below (gQ D A (q_h_seekBest_f T fa h0 a0 le h1 qx qy ql h2 h3 qb qp qc an am al ao au a1 a2 a3 a4 a5 a6 a7 a8 a9 a10 af1 af2 af3 af4 af5 af9)) args s 0 0 A) (F0 m 50 ls []) := by
              intro fu_50
              induction fu_50 with
              | zero => intro k50 gd hk50 hgd hmu; exact absurd hmu (Nat.not_lt_zero _)
              | succ fu_50 ih_50 =>
                intro k50 gd hk50 hgd hmu_50 H locs ls V hl
                refine lv_iload hx hb dX3_seekBestRound_50 (lv_at hl 0 rfl) ?_
                refine lv_aload_n hx hb dX3_seekBestRound_52 rfl (lv_at hl 5 rfl) ?_
                refine g_get hC V (ci := 5) uwX5 4 rfl rfl 0 (by decide) w_37 rfl rfl dX3_seekBestRound_53 ?_
                refine lv_icmp_ge (tgt := 94) hx hb dX3_seekBestRound_56 (by decide) (fun c_15 => ?_) (fun c_15 => ?_)
                · skip
                  have c_15 := b_le (by omega) (by omega) c_15
                  refine lv_aload_n hx hb dX3_seekBestRound_94 rfl (lv_at hl 4 rfl) ?_
                  refine lv_aload_n hx hb dX3_seekBestRound_95 rfl (lv_at hl 5 rfl) ?_
                  refine g_callVU (nA := 1) hC V hl.1 (h_holdAll_f l D T fa h0 a0 h1 qx qy le h2 h3 gd gc an am al ao au a1 a2 a3 a4 a5 a6 a7 a8 a9 a10 af1 af2 af3 af4 af5 af9 (by first | assumption | omega) ⟨by omega, by omega⟩ h_s1 h_s2 h_s3 h_s4 h_s5 h_s9 h_a h_lb) w_666 w_668 w_s21 w_6 w_669 (by decide +kernel) rfl ⟨(Nat.le_of_ble_eq_true rfl), (Nat.le_of_ble_eq_true rfl)⟩ 0 (ci := 3) rfl rfl [0, 2, 3, 4, 5, 6, 7, 8, 9, 10] rfl rfl (Nat.le_of_ble_eq_true rfl) dX3_seekBestRound_96 ⟨(Nat.le_of_ble_eq_true rfl), (Nat.le_of_ble_eq_true rfl)⟩ rfl (fun r w1 H locs hQ V => ?_)
                  rcases hQ with ⟨g_16, rfl, rfl, f_17⟩ | ⟨g_18, rfl, rfl, f_19⟩
                  · have V : gW D T A s [(h0, .inr (3, [.ref h1, .int qx, .int qy, .int (nI le), .ref h2, .ref h3])), (h1, .inl (T 0, 10, .inl ga)), (h2, .inl (T 0, 10, .inl gd)), (h3, .inl (T 0, 12, .inl g_16)), (a0, .inr (5, [.int (nI an), .int am, .int al, .int ao, .int au, .ref a1, .ref a2, .ref a3, .ref a4, .ref a5, .ref a6, .ref a7, .ref a8, .ref a9, .ref a10])), (a1, .inl (T 0, 10, .inl af1)), (a2, .inl (T 0, 10, .inl af2)), (a3, .inl (T 0, 10, .inl af3)), (a4, .inl (T 0, 10, .inl af4)), (a5, .inl (T 0, 10, .inl af5)), (a9, .inl (T 0, 10, .inl af9))] H locs := V _ [0, 1, 0, 0, 0, 0, 0, 0, 0, 0] rfl rfl rfl (by decide +kernel) rfl
                    show W p l e _ s m args below meth c H locs _ _ _ (F0 m 99 ls [.int (nI 1)])
                    refine lv_if_eq (tgt := 120) hx hb dX3_seekBestRound_99 (by decide) (fun c => absurd (show (nI 1) = 0 from c) (by decide +kernel)) (fun _ => ?_)
                    refine lv_iload hx hb dX3_seekBestRound_102 (lv_at hl 1 rfl) ?_
                    refine lv_istore_n (lv' := [(3, .int z_3), (6, .int (nI k50)), (5, .int z_3), (4, .int (nI k10)), (0, .ref h0), (1, .ref a0), (2, .int (nI le))]) hx hb dX3_seekBestRound_104 rfl hl (by decide) rfl (fun ls hl => ?_)
                    refine lv_aload_n hx hb dX3_seekBestRound_105 rfl (lv_at hl 4 rfl) ?_
                    refine g_get hC V (ci := 3) uwX3 0 rfl rfl 4 (by decide) w_190 rfl rfl dX3_seekBestRound_106 ?_
                    refine lv_iconst (v := (nI 0)) hx hb dX3_seekBestRound_109 (by decide +kernel) ?_
                    refine lv_aload_n hx hb dX3_seekBestRound_110 rfl (lv_at hl 4 rfl) ?_
                    refine g_get hC V (ci := 3) uwX3 0 rfl rfl 0 (by decide) w_183 rfl rfl dX3_seekBestRound_111 ?_
                    refine lv_iconst (v := (nI 0)) hx hb dX3_seekBestRound_114 (by decide +kernel) ?_
                    refine lv_bipush (v := (nI 10)) hx hb dX3_seekBestRound_115 (by decide +kernel) ?_
                    refine g_copyf hC V hl.1 w_670 w_672 w_671 w_17 2 1 rfl rfl (by decide +kernel) (by decide +kernel) (Nat.le_of_ble_eq_true rfl) (Nat.le_of_ble_eq_true rfl) (Nat.le_of_ble_eq_true rfl) dX3_seekBestRound_117 10 (by decide +kernel) (fun g_20 hcp H locs V => ?_)
                    have V : gW D T A s [(h0, .inr (3, [.ref h1, .int qx, .int qy, .int (nI le), .ref h2, .ref h3])), (h1, .inl (T 0, 10, .inl g_20)), (h2, .inl (T 0, 10, .inl gd)), (h3, .inl (T 0, 12, .inl g_16)), (a0, .inr (5, [.int (nI an), .int am, .int al, .int ao, .int au, .ref a1, .ref a2, .ref a3, .ref a4, .ref a5, .ref a6, .ref a7, .ref a8, .ref a9, .ref a10])), (a1, .inl (T 0, 10, .inl af1)), (a2, .inl (T 0, 10, .inl af2)), (a3, .inl (T 0, 10, .inl af3)), (a4, .inl (T 0, 10, .inl af4)), (a5, .inl (T 0, 10, .inl af5)), (a9, .inl (T 0, 10, .inl af9))] H locs := V
                    refine lv_iinc (v := (nI (k10 + 1))) (lv' := [(4, .int (nI (k10 + 1))), (3, .int z_3), (6, .int (nI k50)), (5, .int z_3), (0, .ref h0), (1, .ref a0), (2, .int (nI le))]) hx hb dX3_seekBestRound_120 hl (k := 3) rfl (nI_1 _) (by decide) rfl (fun ls hl => ?_)
                    refine lv_goto (tgt := 10) hx hb dX3_seekBestRound_123 (by decide) ?_
                    exact ih_10 (k10 + 1) z_3 g_20 gd g_16 (by omega) (rz_y hR hbc (Or.inr c_13) ((nvr_ext (by omega) (fun i hi t _ => iff_of_eq (congrArg (fun x => bitP x t) (hgd i (by omega))))).mp f_17) (fun i hi => (hcp i (by omega)).trans (hgd i (by omega)))) (by omega) _ _ _ V (lv_sub hl [0, 1, 4, 5, 6] rfl)
                  · have V : gW D T A s [(h0, .inr (3, [.ref h1, .int qx, .int qy, .int (nI le), .ref h2, .ref h3])), (h1, .inl (T 0, 10, .inl ga)), (h2, .inl (T 0, 10, .inl gd)), (h3, .inl (T 0, 12, .inl g_18)), (a0, .inr (5, [.int (nI an), .int am, .int al, .int ao, .int au, .ref a1, .ref a2, .ref a3, .ref a4, .ref a5, .ref a6, .ref a7, .ref a8, .ref a9, .ref a10])), (a1, .inl (T 0, 10, .inl af1)), (a2, .inl (T 0, 10, .inl af2)), (a3, .inl (T 0, 10, .inl af3)), (a4, .inl (T 0, 10, .inl af4)), (a5, .inl (T 0, 10, .inl af5)), (a9, .inl (T 0, 10, .inl af9))] H locs := V _ [0, 1, 0, 0, 0, 0, 0, 0, 0, 0] rfl rfl rfl (by decide +kernel) rfl
                    show W p l e _ s m args below meth c H locs _ _ _ (F0 m 99 ls [.int (nI 0)])
                    refine lv_if_eq (tgt := 120) hx hb dX3_seekBestRound_99 (by decide) (fun _ => ?_) (fun c => absurd (show (nI 0) = 0 by decide +kernel) c)
                    refine lv_iinc (v := (nI (k10 + 1))) (lv' := [(4, .int (nI (k10 + 1))), (6, .int (nI k50)), (5, .int z_3), (3, .int x3), (0, .ref h0), (1, .ref a0), (2, .int (nI le))]) hx hb dX3_seekBestRound_120 hl (k := 2) rfl (nI_1 _) (by decide) rfl (fun ls hl => ?_)
                    refine lv_goto (tgt := 10) hx hb dX3_seekBestRound_123 (by decide) ?_
                    exact ih_10 (k10 + 1) x3 ga gd g_18 (by omega) (rz_s2 hR (fun q => f_19 ((nvr_ext (by omega) (fun i hi t _ => iff_of_eq (congrArg (fun x => bitP x t) (hgd i (by omega))))).mpr q))) (by omega) _ _ _ V (lv_sub hl [0, 3, 4, 5, 6] rfl)
                · skip
                  have c_15 := b_nle (by omega) (by omega) c_15
                  refine lv_aload_n hx hb dX3_seekBestRound_59 rfl (lv_at hl 4 rfl) ?_
                  refine g_get hC V (ci := 3) uwX3 0 rfl rfl 4 (by decide) w_190 rfl rfl dX3_seekBestRound_60 ?_
                  refine lv_iload hx hb dX3_seekBestRound_63 (lv_at hl 0 rfl) ?_
                  refine lv_iload hx hb dX3_seekBestRound_65 (lv_at hl 2 rfl) ?_
                  refine lv_aload_n hx hb dX3_seekBestRound_67 rfl (lv_at hl 5 rfl) ?_
                  refine g_get hC V (ci := 5) uwX5 4 rfl rfl 0 (by decide) w_37 rfl rfl dX3_seekBestRound_68 ?_
                  refine lv_iconst (v := (nI 1)) hx hb dX3_seekBestRound_71 (by decide +kernel) ?_
                  refine lv_isub hx hb dX3_seekBestRound_72 ?_
                  refine g_vi (y := (nI (an - 1))) (nI_sub (by omega)) ?_
                  refine lv_iload hx hb dX3_seekBestRound_73 (lv_at hl 0 rfl) ?_
                  refine lv_isub hx hb dX3_seekBestRound_75 ?_
                  refine g_vi (y := (nI ((an - 1) - k50))) (nI_sub (by omega)) ?_
                  refine lv_aload_n hx hb dX3_seekBestRound_76 rfl (lv_at hl 4 rfl) ?_
                  refine g_get hC V (ci := 3) uwX3 0 rfl rfl 3 (by decide) w_189 rfl rfl dX3_seekBestRound_77 ?_
                  refine lv_imul hx hb dX3_seekBestRound_80 ?_
                  refine g_vi (y := (nI (((an - 1) - k50) * le))) (pk_mul _ _) ?_
                  refine lv_ishr hx hb dX3_seekBestRound_81 ?_
                  refine lv_aload_n hx hb dX3_seekBestRound_82 rfl (lv_at hl 4 rfl) ?_
                  refine g_callVU (nA := 0) hC V hl.1 (h_everyTime_f l D T h0 h1 qx qy le h2 h3 ⟨by omega, by omega⟩) w_606 w_608 w_s17 w_6 w_609 (by decide +kernel) rfl ⟨(Nat.le_of_ble_eq_true rfl), (Nat.le_of_ble_eq_true rfl)⟩ 0 (ci := 3) rfl rfl [0] rfl rfl (Nat.le_of_ble_eq_true rfl) dX3_seekBestRound_83 ⟨(Nat.le_of_ble_eq_true rfl), (Nat.le_of_ble_eq_true rfl)⟩ rfl (fun r w1 H locs hQ V => ?_)
                  obtain ⟨rfl, rfl⟩ := hQ
                  have V : gW D T A s [(h0, .inr (3, [.ref h1, .int qx, .int qy, .int (nI le), .ref h2, .ref h3])), (h1, .inl (T 0, 10, .inl ga)), (h2, .inl (T 0, 10, .inl gd)), (h3, .inl (T 0, 12, .inl gc)), (a0, .inr (5, [.int (nI an), .int am, .int al, .int ao, .int au, .ref a1, .ref a2, .ref a3, .ref a4, .ref a5, .ref a6, .ref a7, .ref a8, .ref a9, .ref a10])), (a1, .inl (T 0, 10, .inl af1)), (a2, .inl (T 0, 10, .inl af2)), (a3, .inl (T 0, 10, .inl af3)), (a4, .inl (T 0, 10, .inl af4)), (a5, .inl (T 0, 10, .inl af5)), (a9, .inl (T 0, 10, .inl af9))] H locs := V _ [0] rfl rfl rfl (by decide +kernel) rfl
                  show W p l e _ s m args below meth c H locs _ _ _ (F0 m 86 ls [.int (nI (2 ^ le - 1)), .int ((nI k10) >>> ((nI (((an - 1) - k50) * le)) &&& 31)), .int (nI k50), .ref h2])
                  refine lv_iand hx hb dX3_seekBestRound_86 ?_
                  refine g_iast hC V 2 rfl (vp_in_nI (by omega) (by omega)) (f' := (upd gd k50 (((nI k10) >>> ((nI (((an - 1) - k50) * le)) &&& 31)) &&& (nI (2 ^ le - 1))))) (by rw [nI_clamp (by omega)]) (ws' := [(h0, .inr (3, [.ref h1, .int qx, .int qy, .int (nI le), .ref h2, .ref h3])), (h1, .inl (T 0, 10, .inl ga)), (h2, .inl (T 0, 10, .inl (upd gd k50 (((nI k10) >>> ((nI (((an - 1) - k50) * le)) &&& 31)) &&& (nI (2 ^ le - 1)))))), (h3, .inl (T 0, 12, .inl gc)), (a0, .inr (5, [.int (nI an), .int am, .int al, .int ao, .int au, .ref a1, .ref a2, .ref a3, .ref a4, .ref a5, .ref a6, .ref a7, .ref a8, .ref a9, .ref a10])), (a1, .inl (T 0, 10, .inl af1)), (a2, .inl (T 0, 10, .inl af2)), (a3, .inl (T 0, 10, .inl af3)), (a4, .inl (T 0, 10, .inl af4)), (a5, .inl (T 0, 10, .inl af5)), (a9, .inl (T 0, 10, .inl af9))]) rfl dX3_seekBestRound_87 (fun H locs V => ?_)
                  refine lv_iinc (v := (nI (k50 + 1))) (lv' := [(6, .int (nI (k50 + 1))), (5, .int z_3), (4, .int (nI k10)), (3, .int x3), (0, .ref h0), (1, .ref a0), (2, .int (nI le))]) hx hb dX3_seekBestRound_88 hl (k := 0) rfl (nI_1 _) (by decide) rfl (fun ls hl => ?_)
                  refine lv_goto (tgt := 50) hx hb dX3_seekBestRound_91 (by decide) ?_
                  exact ih_50 (k50 + 1) (upd gd k50 (((nI k10) >>> ((nI (((an - 1) - k50) * le)) &&& 31)) &&& (nI (2 ^ le - 1)))) (by omega) (up_one (p := fun i x => x = rdP an le k10 i) hgd rfl) (by omega) _ _ _ V (lv_sub hl [0, 1, 2, 3, 4, 5, 6] rfl)
            exact L_14 _ 0 gb (by omega) (fun i h => absurd h (Nat.not_lt_zero _)) (Nat.lt_succ_self _) _ _ _ V (lv_sub hl [0, 1, 2, 3, 4, 5, 6] rfl)
          · skip
            refine lv_goto (tgt := 120) hx hb dX3_seekBestRound_44 (by decide) ?_
            refine lv_iinc (v := (nI (k10 + 1))) (lv' := [(4, .int (nI (k10 + 1))), (5, .int z_3), (3, .int x3), (0, .ref h0), (1, .ref a0), (2, .int (nI le))]) hx hb dX3_seekBestRound_120 hl (k := 1) rfl (nI_1 _) (by decide) rfl (fun ls hl => ?_)
            refine lv_goto (tgt := 10) hx hb dX3_seekBestRound_123 (by decide) ?_
            exact ih_10 (k10 + 1) x3 ga gb gc (by omega) (rz_s1 hR hbc c_5 c_13) (by omega) _ _ _ V (lv_sub hl [0, 2, 3, 4, 5] rfl)
  exact L_1 _ 0 (-1) qb qp qc (by omega) rz_0 (Nat.lt_succ_self _) _ _ _ V (lv_sub hl [0, 1, 2, 3, 4] rfl)
