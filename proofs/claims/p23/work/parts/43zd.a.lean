/-! HEATS and LOWS are 0 to 200, of all ten places -/
def LB (f : Nat → Int32) : Prop := ∀ i, i < 10 → bd (f (24 + i)) 201 ∧ bd (f (34 + i)) 201
theorem lb_ext {f g : Nat → Int32} (h : LB f) (e : ∀ j, j < 94 → g j = f j) : LB g := fun i hi => by rw [e (24 + i) (by omega), e (34 + i) (by omega)]; exact h i hi
theorem lb_up {f : Nat → Int32} {k : Nat} {x : Int32} (h : LB f) (hk : k < 24 ∨ 44 ≤ k) : LB (upd f k x) := fun i hi => by rw [up_other (by omega), up_other (by omega)]; exact h i hi
theorem lb_go {n : Nat} {f : Nat → Int32} {pl sk fi mr : Int32} (hn : n ≤ 10) (h : LB f) : LB (goF n f pl sk fi mr) := fun i hi => by
  have e34 : goF n f pl sk fi mr (34 + i) = f (34 + i) := by
    unfold goF; rw [up_other (by omega)]; exact md_other hn (Nat.le_refl _) (by omega)
  have e24 : bd (goF n f pl sk fi mr (24 + i)) 201 := by
    unfold goF; rw [up_other (by omega)]; unfold md
    by_cases c : i < n
    · rw [if_pos (by omega)]; exact ibf_bd _
    · rw [if_neg (by omega), if_neg (by omega), if_neg (by omega), if_neg (by omega)]; exact (h i hi).1
  exact ⟨e24, by rw [e34]; exact (h i hi).2⟩
theorem lb_ms {c : Nat} {f g : Nat → Int32} (hc : 94 ≤ c) (M : ∀ j, 94 ≤ j → g j = f j) (h : LB (fun j => f (c + j))) : LB (fun j => g (c + j)) := fun i hi => by
  show bd (g (c + (24 + i))) 201 ∧ bd (g (c + (34 + i))) 201
  rw [M _ (by omega), M _ (by omega)]; exact h i hi
theorem lb_rope {n : Nat} {f : Nat → Int32} {i to : Int32} (_ : n ≤ 10) (h : LB f) : LB (ropeF n f i to) := by
  unfold ropeF
  split
  · exact lb_up h (Or.inr (by omega))
  · exact h
theorem lb_arm {n : Nat} {f : Nat → Int32} {i b : Int32} (hn : n ≤ 10) (h : LB f) : LB (armF n f i b) := by
  unfold armF
  split
  · rename_i q
    obtain ⟨j, hj, ej⟩ := g_idx (n := n) (by omega) (fun r => q.1 (Or.inl r)) (fun r => q.1 (Or.inr r))
    rw [ej, nI_clamp (by omega)]; exact lb_up h (Or.inl (by omega))
  · exact h
theorem lb_pie {n : Nat} {f : Nat → Int32} {i b : Int32} (_ : n ≤ 10) (h : LB f) : LB (pieF n f i b) := by
  unfold pieF
  split
  · exact lb_up (lb_up h (Or.inr (by omega))) (Or.inr (by omega))
  · exact h
theorem lb_min {n : Nat} {f : Nat → Int32} {pl sk : Int32} (hn : n ≤ 10) (h : LB f) : LB (minF n f pl sk) := by
  unfold minF
  split
  · exact lb_go hn h
  · exact h
theorem lb_cu {n : Nat} {f : Nat → Int32} {lz : Int32} (hn : n ≤ 10) (h : LB f) : ∀ k, LB (cuI n f lz k)
  | 0 => h
  | k + 1 => lb_go hn (lb_cu hn h k)
theorem lb_dy {n : Nat} {f : Nat → Int32} {x : Int32} (hn : n ≤ 10) (h : LB f) : ∀ k, LB (dyI n f x k)
  | 0 => h
  | k + 1 => lb_go hn (lb_dy hn h k)
theorem lb_tl {n : Nat} {f : Nat → Int32} {R : Nat → Int64} (hn : n ≤ 10) (h : LB f) : ∀ k, LB (tlI n f R k)
  | 0 => h
  | 1 => h
  | k + 2 => lb_go hn (lb_tl hn h k)
theorem lb_liv {n : Nat} {f : Nat → Int32} {v : Int32} (hn : n ≤ 10) (h : LB f) : LB (livF n f v) := by
  unfold livF
  split
  · exact lb_cu hn h _
  · exact h
theorem lb_day {n : Nat} {f : Nat → Int32} {x v : Int32} (hn : n ≤ 10) (h : LB f) : LB (dayF n f x v) := by
  unfold dayF
  split
  · exact lb_dy hn h _
  · exact h
theorem lb_per {n : Nat} {f fq fm : Nat → Int32} {fn : Nat → Int64} {row : Int32} (hn : n ≤ 10) (h : LB f) : LB (perF n f fq fm fn row) := by
  unfold perF
  split
  · exact lb_tl hn h _
  · exact h
/-! .. of a street that is read -/
theorem lb_sm {t : Nat → Int32} {sz n : Nat} {p : PS} {f : Nat → Int32} (hn : n ≤ 10) (h : LB f) : LB (smF t sz n p f) := by
  by_cases c : n = 10
  · rw [smF_10 c]; exact h
  · by_cases c2 : (sm6 t sz p).2.2.2.2.1 = 0
    · obtain ⟨h5, h4, h3, h2, h1⟩ := sm_w c2
      rw [sm3_e] at h3
      rw [sm4_e] at h4
      have b24 : bd (smHe t sz p) 201 := rg_or (c := 0) (ti_rng h3).2 (by decide) (by decide)
      have b34 : bd (smLo t sz p) 201 := rg_or (c := 20) (ti_rng h4).2 (by decide) (by decide)
      rw [smF_0 c c2]
      intro i hi
      unfold smU
      by_cases q : i = n
      · subst q
        rw [up_other (by omega), up_other (by omega), up_other (by omega), up_other (by omega), up_same, up_other (by omega), up_other (by omega), up_other (by omega), up_same]
        exact ⟨b24, b34⟩
      · rw [up_other (by omega), up_other (by omega), up_other (by omega), up_other (by omega), up_other (by omega), up_other (by omega), up_other (by omega), up_other (by omega), up_other (by omega), up_other (by omega), up_other (by omega), up_other (by omega), up_other (by omega), up_other (by omega)]
        exact h i hi
    · rw [smF_w c c2]; exact h
theorem lb_smn {t : Nat → Int32} {sz n : Nat} {p : PS} (hn : n ≤ 10) : smN t sz n p ≤ 10 := by
  unfold smN
  split
  · exact hn
  · split <;> omega
theorem lb_bl {t : Nat → Int32} {sz n : Nat} {p : PS} {f : Nat → Int32} (h : LB f) : LB (blF t sz n p f) := by
  unfold blF
  split
  · exact lb_up h (Or.inr (by omega))
  · exact h
theorem lb_lnA {t : Nat → Int32} {sz : Nat} {s : RLs} (h : s.1 ≤ 10 ∧ LB s.2.2) : (lnA t sz s).1 ≤ 10 ∧ LB (lnA t sz s).2.2 := by
  unfold lnA
  split
  · exact ⟨lb_smn h.1, lb_sm h.1 h.2⟩
  · split
    · exact ⟨h.1, lb_bl h.2⟩
    · split
      · exact ⟨h.1, lb_up h.2 (Or.inl (by decide))⟩
      · exact h
theorem lb_it {t : Nat → Int32} {sz : Nat} {s : RLs} (h : s.1 ≤ 10 ∧ LB s.2.2) : ∀ k, (itS t sz s k).1 ≤ 10 ∧ LB (itS t sz s k).2.2
  | 0 => h
  | k + 1 => ⟨(lb_lnA (lb_it h k)).1, lb_up (lb_lnA (lb_it h k)).2 (Or.inl (by decide))⟩
theorem lb_FN {t : Nat → Int32} {sz : Nat} {s0 s : RLs} (h : FN t sz s0 s) (h0 : s0.1 ≤ 10) (h1 : LB s0.2.2) : LB s.2.2 := by
  obtain ⟨K, e, _⟩ := h
  rw [e]; exact (lb_it ⟨h0, h1⟩ K).2
theorem lb_fr {f : Nat → Int32} : LB (frI f) := fun i hi => by
  have e : ∀ k, k < 94 → ¬ k = 2 → frI f k = nI 0 := fun k h1 h2 => by unfold frI; rw [if_pos h1, if_neg h2]
  rw [e (24 + i) (by omega) (by omega), e (34 + i) (by omega) (by omega)]
  exact ⟨bd_nI (by decide), bd_nI (by decide)⟩
theorem lb_st {f : Nat → Int32} {s : RLs} (h : LB f) (hs : LB s.2.2) : LB (stG f s) := fun i hi => by
  by_cases c : s.2.1.2.2.2.2.1 = 0
  · have e : ∀ j, j < 84 → stG f s j = s.2.2 j := fun j hj => by unfold stG; rw [if_pos ⟨c, by omega⟩, if_neg (by omega)]
    rw [e (24 + i) (by omega), e (34 + i) (by omega)]; exact hs i hi
  · rw [← stG_w c]; exact h i hi
/-! .. of images -/
theorem lb_im1 {i : Int32} {f : Nat → Int32} (h : LB f) (h1 : LB (fun j => f (94 + j))) : LB (fun j => imF i f (94 + j)) := by
  by_cases e : i = nI 0
  · exact lb_ext h (imF_00 e)
  · by_cases e1 : i = nI 1
    · exact lb_ext h1 (imF_10 e1)
    · unfold imF; rw [if_neg e, if_neg e1]; exact h1
theorem lb_im2 {i : Int32} {f : Nat → Int32} (h : LB f) (h1 : LB (fun j => f (188 + j))) : LB (fun j => imF i f (188 + j)) := by
  by_cases e : i = nI 0
  · exact lb_ext h1 (imF_01 e)
  · by_cases e1 : i = nI 1
    · exact lb_ext h (imF_11 e1)
    · unfold imF; rw [if_neg e, if_neg e1]; exact h1
theorem lb_res {i a b : Int32} {f : Nat → Int32} (h : LB f) (h1 : LB (fun j => f (94 + j))) (h2 : LB (fun j => f (188 + j))) : LB (resF i f a b) := by
  unfold resF
  split
  · split
    · exact lb_ext h1 (fun j hj => if_pos hj)
    · exact lb_ext h2 (fun j hj => if_pos hj)
  · exact h
theorem lb_new : LB (fun _ => nI 0) := fun i hi => ⟨bd_nI (by decide), bd_nI (by decide)⟩
theorem lb_zer {x : Int32} (m : Nat) (hm : 2 < m) : LB (fun j => upd (fun _ => nI 0) 2 x (m + j)) := fun i hi => by
  show bd (upd (fun _ => nI 0) 2 x (m + (24 + i))) 201 ∧ bd (upd (fun _ => nI 0) 2 x (m + (34 + i))) 201
  rw [up_other (by omega), up_other (by omega)]; exact ⟨bd_nI (by decide), bd_nI (by decide)⟩

/-! COLD -/
def cdN (h lo co : Nat) : Int32 := if h < lo then nI 0 else if co = 0 ∨ lo = 0 then -1 else nI ((h - lo) / co + 1)
theorem cn_0 {h lo co : Nat} (c : h < lo) : cdN h lo co = nI 0 := if_pos c
theorem cn_1 {h lo co : Nat} (c : lo ≤ h) (d : co = 0 ∨ lo = 0) : cdN h lo co = -1 := by unfold cdN; rw [if_neg (by omega), if_pos d]
theorem cn_2 {h lo co : Nat} (c : lo ≤ h) (d : ¬ co = 0) (e : ¬ lo = 0) : cdN h lo co = nI ((h - lo) / co + 1) := by unfold cdN; rw [if_neg (by omega), if_neg (fun q => q.elim d e)]
def cdA (n : Nat) (f : Nat → Int32) (i : Int32) : Int32 := if smP n i then cdN (f (24 + i.toNatClampNeg)).toNatClampNeg (f (34 + i.toNatClampNeg)).toNatClampNeg (f (14 + i.toNatClampNeg)).toNatClampNeg else -2
theorem cd_o {n : Nat} {f : Nat → Int32} {i : Int32} (c : i < 0 ∨ nI n ≤ i) : -2 = cdA n f i := by unfold cdA; rw [if_neg (fun q => q c)]
theorem cd_y {n j ja jb jc : Nat} {f : Nat → Int32} {i z : Int32} (hn : n ≤ 10) (ei : i = nI j) (hj : j < n) (ea : f (24 + j) = nI ja) (ha : ja < 256) (eb : f (34 + j) = nI jb) (hb : jb < 256) (ec : f (14 + j) = nI jc) (hc : jc < 256) (hz : cdN ja jb jc = z) : z = cdA n f i := by
  unfold cdA; rw [if_pos (smP_of ei hj hn), ei, nI_clamp (by omega), ea, nI_clamp (by omega), eb, nI_clamp (by omega), ec, nI_clamp (by omega), hz]
theorem sb_int {a b : Nat} (ha : a < 100000) (hb : b < 100000) : (nI a - nI b).toInt = (a : Int) - b := by
  rw [Int32.toInt_sub, nI_toInt (by omega), nI_toInt (by omega)]
  exact Int.bmod_eq_of_le (by omega) (by omega)
theorem sb_neg {a b : Nat} (h : a < b) (hb : b < 100000) : nI a - nI b < 0 := by
  rw [Int32.lt_iff_toInt_lt, sb_int (by omega) hb, show (0 : Int32).toInt = 0 by decide +kernel]; omega
theorem cd_ge {a b : Nat} {x y : Int32} (ex : x = nI a) (ey : y = nI b) (ha : a < 256) (hb : b < 256) (c : 0 ≤ x - y) : b ≤ a := by
  by_cases q : b ≤ a
  · exact q
  · rw [ex, ey] at c
    exact absurd (sb_neg (a := a) (b := b) (by omega) (by omega)) (Int32.not_lt.mpr c)
theorem cd_lt {a b : Nat} {x y : Int32} (ex : x = nI a) (ey : y = nI b) (ha : a < 256) (hb : b < 256) (c : ¬ 0 ≤ x - y) : a < b := by
  by_cases q : b ≤ a
  · exfalso; apply c
    rw [ex, ey, nI_sub q]; exact Int32.not_lt.mp (nI_pos (by omega))
  · omega
theorem cd_dv {a b k : Nat} {x y u : Int32} (ex : x = nI a) (ey : y = nI b) (eu : u = nI k) (ha : a < 256) (hb : b ≤ a) (hk : k < 256) (h0 : ¬ k = 0) : nI ((a - b) / k + 1) = (x - y) / u + nI 1 := by
  rw [ex, ey, eu, nI_sub hb, nI_div (by omega) (by omega), nI_add]
/-- the reference's way, MINUTE by MINUTE -/
def CDI (h lo co k now : Nat) : Prop := (co = 0 → k = 0 ∧ now = h) ∧ (0 < co → (lo ≤ now → lo ≤ h ∧ (0 < lo → (h - lo) / co = k + (now - lo) / co)) ∧ (now < lo → nI k = cdN h lo co))
theorem ci_0 {h lo co : Nat} : CDI h lo co 0 h := ⟨fun _ => ⟨rfl, rfl⟩, fun _ => ⟨fun q => ⟨q, fun _ => (Nat.zero_add _).symm⟩, fun q => (cn_0 q).symm⟩⟩
theorem ci_s {h lo co k now : Nat} (H : CDI h lo co k now) (h1 : lo ≤ now) (h2 : ¬ co = 0) : CDI h lo co (k + 1) (now - co) := by
  refine ⟨fun q => absurd q h2, fun hp => ⟨fun q => ?_, fun q => ?_⟩⟩
  · refine ⟨((H.2 hp).1 h1).1, fun hl => ?_⟩
    rw [((H.2 hp).1 h1).2 hl, Nat.div_eq_sub_div hp (show co ≤ now - lo by omega), show now - lo - co = now - co - lo by omega]; omega
  · have hl : 0 < lo := by omega
    have e := ((H.2 hp).1 h1).2 hl
    rw [Nat.div_eq_of_lt (show now - lo < co by omega)] at e
    rw [cn_2 ((H.2 hp).1 h1).1 (by omega) (by omega), e]
theorem ci_e {h lo co k now : Nat} (H : CDI h lo co k now) (c : now < lo) : cdN h lo co = nI k := by
  by_cases q : co = 0
  · obtain ⟨e1, e2⟩ := H.1 q
    rw [e1, cn_0 (by omega)]
  · exact (((H.2 (by omega)).2 c)).symm
theorem ci_n {h lo co k now : Nat} (H : CDI h lo co k now) (c : lo ≤ now) (d : co = 0 ∨ now = 0) : cdN h lo co = -1 := by
  by_cases q : co = 0
  · exact cn_1 (by have := (H.1 q).2; omega) (Or.inl q)
  · exact cn_1 (by omega) (Or.inr (by omega))
theorem ib_cd {a b r : Nat} (ha : a ≤ 200) (hb : b < 256) (hr : r < 1000) (e : nI r = ibf (nI a - nI b)) : r = a - b := by
  unfold ibf at e
  by_cases q : b ≤ a
  · rw [nI_sub q, if_neg (nI_pos (by omega))] at e
    by_cases c : nI 200 < nI (a - b)
    · rw [if_pos c] at e
      exact absurd (b_lt (by decide) (by omega) c) (by have := b_eq (by omega) (by decide) e; omega)
    · rw [if_neg c] at e; exact b_eq (by omega) (by omega) e
  · rw [if_pos (sb_neg (by omega) (by omega))] at e
    have := b_eq (by omega) (by decide) e; omega

def q_x_cold_f (T : Nat → ClassId) (nf1 : Nat → Int32) (nf5 : Nat → Int32) (nf6 : Nat → Int32) (nf7 : Nat → Int32) (nf9 : Nat → Int32) (fa : Nat → Int32) (o : Nat) (i : Int32) (n0 : Nat) (s0 : Nat) (im : Nat) (iz : Nat) (rw : Nat) (t0 : Nat) (u0 : Nat) (h0 : Nat) (y0 : Nat) (sv : Value) (nn : Nat) (nm : Int32) (nl : Int32) (no : Int32) (nu : Int32) (n1 : Nat) (n2 : Nat) (n3 : Nat) (n4 : Nat) (n5 : Nat) (n6 : Nat) (n7 : Nat) (n8 : Nat) (n9 : Nat) (n10 : Nat) (nf2 : Nat → Int32) (nf3 : Nat → Int32) (nf4 : Nat → Int32) : Option Value → va_W → Prop := fun rr ww => (∃ (z : Int32), rr = some (.int z) ∧ ww = [(o, .inr (7, [.ref n0, .ref s0, .ref im, .ref iz, .ref rw, .ref t0, .ref u0, .ref h0, .ref y0, sv])), (n0, .inr (5, [.int (nI nn), .int nm, .int nl, .int no, .int nu, .ref n1, .ref n2, .ref n3, .ref n4, .ref n5, .ref n6, .ref n7, .ref n8, .ref n9, .ref n10])), (n2, .inl (T 0, 10, .inl nf2)), (n3, .inl (T 0, 10, .inl nf3)), (n4, .inl (T 0, 10, .inl nf4))] ∧ z = cdA nn fa i)
set_option maxHeartbeats 4000000 in
set_option maxRecDepth 100000 in
theorem x_cold_f (l : Launch) (D : va_G) (T : Nat → ClassId) (nf1 : Nat → Int32) (nf5 : Nat → Int32) (nf6 : Nat → Int32) (nf7 : Nat → Int32) (nf9 : Nat → Int32) (fa : Nat → Int32) (o : Nat) (i : Int32) (n0 : Nat) (s0 : Nat) (im : Nat) (iz : Nat) (rw : Nat) (t0 : Nat) (u0 : Nat) (h0 : Nat) (y0 : Nat) (sv : Value) (nn : Nat) (nm : Int32) (nl : Int32) (no : Int32) (nu : Int32) (n1 : Nat) (n2 : Nat) (n3 : Nat) (n4 : Nat) (n5 : Nat) (n6 : Nat) (n7 : Nat) (n8 : Nat) (n9 : Nat) (n10 : Nat) (nf2 : Nat → Int32) (nf3 : Nat → Int32) (nf4 : Nat → Int32) (h_n : nn ≤ 10) (h_sr : SR nn nm nl no nf1 nf2 nf3 nf4 nf5 nf6 nf7 nf9 fa) (h_a : MI nn fa) (h_lb : LB fa) : Ct l yX7_cold cX7_cold 3 (some .int) 1 0 0 D T [.ref o, .int i] [(o, .inr (7, [.ref n0, .ref s0, .ref im, .ref iz, .ref rw, .ref t0, .ref u0, .ref h0, .ref y0, sv])), (n0, .inr (5, [.int (nI nn), .int nm, .int nl, .int no, .int nu, .ref n1, .ref n2, .ref n3, .ref n4, .ref n5, .ref n6, .ref n7, .ref n8, .ref n9, .ref n10])), (n2, .inl (T 0, 10, .inl nf2)), (n3, .inl (T 0, 10, .inl nf3)), (n4, .inl (T 0, 10, .inl nf4))] (q_x_cold_f T nf1 nf5 nf6 nf7 nf9 fa o i n0 s0 im iz rw t0 u0 h0 y0 sv nn nm nl no nu n1 n2 n3 n4 n5 n6 n7 n8 n9 n10 nf2 nf3 nf4) := by
  refine Ct.of (cc := cX7_cold) (maxL := 3) (ret := (some .int)) (by decide) (Nat.le_of_ble_eq_true rfl) ?_
  intro p e s m args below meth c A ls hC hnm V hl
  obtain ⟨hx, hb, hr, hml, hown, hts, hlocks⟩ := id hC
  generalize hH : s.heap = H at V ⊢
  clear hH
  have hl : lv_has ls 3 [(0, .ref o), (1, .int i)] := hl
  generalize hlo : ([] : List Loc) = locs at V ⊢
  clear hlo
  refine lv_aload_n hx hb dX7_cold_0 rfl (lv_at hl 0 rfl) ?_
  refine g_get hC V (ci := 7) uwX7 0 rfl rfl 0 (by decide) w_249 rfl rfl dX7_cold_1 ?_
  refine lv_iload_n hx hb dX7_cold_4 rfl (lv_at hl 1 rfl) ?_
  refine g_callVU (nA := 1) hC V hl.1 (s_isSmith l D T n0 i nn nm nl no nu n1 n2 n3 n4 n5 n6 n7 n8 n9 n10 (by first | assumption | omega)) w_425 w_426 w_427 w_3 w_428 (by decide +kernel) rfl ⟨(Nat.le_of_ble_eq_true rfl), (Nat.le_of_ble_eq_true rfl)⟩ 1 (ci := 5) rfl rfl [1] rfl rfl (Nat.le_of_ble_eq_true rfl) dX7_cold_5 ⟨(Nat.le_of_ble_eq_true rfl), (Nat.le_of_ble_eq_true rfl)⟩ rfl (fun r w1 H locs hQ V => ?_)
  rcases hQ with ⟨j_1, rfl, rfl, f_2, f_3⟩ | ⟨rfl, rfl, f_4⟩
  · have V : gW D T A s [(o, .inr (7, [.ref n0, .ref s0, .ref im, .ref iz, .ref rw, .ref t0, .ref u0, .ref h0, .ref y0, sv])), (n0, .inr (5, [.int (nI nn), .int nm, .int nl, .int no, .int nu, .ref n1, .ref n2, .ref n3, .ref n4, .ref n5, .ref n6, .ref n7, .ref n8, .ref n9, .ref n10])), (n2, .inl (T 0, 10, .inl nf2)), (n3, .inl (T 0, 10, .inl nf3)), (n4, .inl (T 0, 10, .inl nf4))] H locs := V _ [1] rfl rfl rfl (by decide +kernel) rfl
    show W p l e _ s m args below meth c H locs _ _ _ (F0 m 8 ls [.int (nI 1)])
    rw [f_2] at hl
    obtain ⟨jha, hjha, ejha⟩ := (h_lb j_1 (by omega)).1
    obtain ⟨jlo, hjlo, ejlo⟩ := (h_lb j_1 (by omega)).2
    obtain ⟨jco, hjco, ejco⟩ := mi_cool h_a f_3
    have e3a := (h_sr.2.2.2.2 j_1 f_3).2.2.1.trans ejha
    have e4a := (h_sr.2.2.2.2 j_1 f_3).2.2.2.1.trans ejlo
    have e2a := (h_sr.2.2.2.2 j_1 f_3).2.1.trans ejco
    refine lv_if_ne (tgt := 14) hx hb dX7_cold_8 (by decide) (fun _ => ?_) (fun c => absurd (show (nI 1) = 0 from c) (by decide +kernel))
    refine lv_aload_n hx hb dX7_cold_14 rfl (lv_at hl 0 rfl) ?_
    refine g_get hC V (ci := 7) uwX7 0 rfl rfl 0 (by decide) w_249 rfl rfl dX7_cold_15 ?_
    refine g_get hC V (ci := 5) uwX5 1 rfl rfl 7 (by decide) w_65 rfl rfl dX7_cold_18 ?_
    refine lv_iload_n hx hb dX7_cold_21 rfl (lv_at hl 1 rfl) ?_
    refine g_iald hC V 3 rfl (vp_in_nI (by omega) (by omega)) (v := (nI jha)) (by rw [nI_clamp (by omega)]; exact e3a) dX7_cold_22 ?_
    refine lv_aload_n hx hb dX7_cold_23 rfl (lv_at hl 0 rfl) ?_
    refine g_get hC V (ci := 7) uwX7 0 rfl rfl 0 (by decide) w_249 rfl rfl dX7_cold_24 ?_
    refine g_get hC V (ci := 5) uwX5 1 rfl rfl 8 (by decide) w_69 rfl rfl dX7_cold_27 ?_
    refine lv_iload_n hx hb dX7_cold_30 rfl (lv_at hl 1 rfl) ?_
    refine g_iald hC V 4 rfl (vp_in_nI (by omega) (by omega)) (v := (nI jlo)) (by rw [nI_clamp (by omega)]; exact e4a) dX7_cold_31 ?_
    refine lv_isub hx hb dX7_cold_32 ?_
    refine lv_istore_n (lv' := [(2, .int ((nI jha) - (nI jlo))), (0, .ref o), (1, .int (nI j_1))]) hx hb dX7_cold_33 rfl hl (by decide) rfl (fun ls hl => ?_)
    refine lv_iload_n hx hb dX7_cold_34 rfl (lv_at hl 0 rfl) ?_
    refine lv_if_ge (tgt := 40) hx hb dX7_cold_35 (by decide) (fun c_5 => ?_) (fun c_5 => ?_)
    · skip
      have hge := cd_ge (a := jha) (b := jlo) rfl rfl (by omega) (by omega) c_5
      refine lv_aload_n hx hb dX7_cold_40 rfl (lv_at hl 1 rfl) ?_
      refine g_get hC V (ci := 7) uwX7 0 rfl rfl 0 (by decide) w_249 rfl rfl dX7_cold_41 ?_
      refine g_get hC V (ci := 5) uwX5 1 rfl rfl 6 (by decide) w_60 rfl rfl dX7_cold_44 ?_
      refine lv_iload_n hx hb dX7_cold_47 rfl (lv_at hl 2 rfl) ?_
      refine g_iald hC V 2 rfl (vp_in_nI (by omega) (by omega)) (v := (nI jco)) (by rw [nI_clamp (by omega)]; exact e2a) dX7_cold_48 ?_
      refine lv_if_le (tgt := 64) hx hb dX7_cold_49 (by decide) (fun c_6 => ?_) (fun c_6 => ?_)
      · skip
        rw [show (0 : Int32) = nI 0 from rfl] at c_6
        have c_6 := b_le (by omega) (by omega) c_6
        refine lv_iconst (v := (-1)) hx hb dX7_cold_64 (by decide +kernel) ?_
        exact g_iret (Qr := (q_x_cold_f T nf1 nf5 nf6 nf7 nf9 fa o i n0 s0 im iz rw t0 u0 h0 y0 sv nn nm nl no nu n1 n2 n3 n4 n5 n6 n7 n8 n9 n10 nf2 nf3 nf4)) hC V ⟨(Nat.le_of_ble_eq_true rfl), (Nat.le_of_ble_eq_true rfl)⟩ ⟨(-1), rfl, rfl, (cd_y h_n f_2 f_3 ejha (by omega) ejlo (by omega) ejco (by omega) (cn_1 hge (by omega)))⟩ dX7_cold_65
      · skip
        rw [show (0 : Int32) = nI 0 from rfl] at c_6
        have c_6 := b_nle (by omega) (by omega) c_6
        refine lv_aload_n hx hb dX7_cold_52 rfl (lv_at hl 1 rfl) ?_
        refine g_get hC V (ci := 7) uwX7 0 rfl rfl 0 (by decide) w_249 rfl rfl dX7_cold_53 ?_
        refine g_get hC V (ci := 5) uwX5 1 rfl rfl 8 (by decide) w_69 rfl rfl dX7_cold_56 ?_
        refine lv_iload_n hx hb dX7_cold_59 rfl (lv_at hl 2 rfl) ?_
        refine g_iald hC V 4 rfl (vp_in_nI (by omega) (by omega)) (v := (nI jlo)) (by rw [nI_clamp (by omega)]; exact e4a) dX7_cold_60 ?_
        refine lv_if_ne (tgt := 66) hx hb dX7_cold_61 (by decide) (fun c_7 => ?_) (fun c_7 => ?_)
        · skip
          rw [show (0 : Int32) = nI 0 from rfl] at c_7
          have c_7 := b_ne (by omega) (by omega) c_7
          refine lv_iload_n hx hb dX7_cold_66 rfl (lv_at hl 0 rfl) ?_
          refine lv_aload_n hx hb dX7_cold_67 rfl (lv_at hl 1 rfl) ?_
          refine g_get hC V (ci := 7) uwX7 0 rfl rfl 0 (by decide) w_249 rfl rfl dX7_cold_68 ?_
          refine g_get hC V (ci := 5) uwX5 1 rfl rfl 6 (by decide) w_60 rfl rfl dX7_cold_71 ?_
          refine lv_iload_n hx hb dX7_cold_74 rfl (lv_at hl 2 rfl) ?_
          refine g_iald hC V 2 rfl (vp_in_nI (by omega) (by omega)) (v := (nI jco)) (by rw [nI_clamp (by omega)]; exact e2a) dX7_cold_75 ?_
          refine lv_idiv hx hb dX7_cold_76 (nI_ne0 (by omega) (by omega)) ?_
          refine lv_iconst (v := (nI 1)) hx hb dX7_cold_77 (by decide +kernel) ?_
          refine lv_iadd hx hb dX7_cold_78 ?_
          exact g_iret (Qr := (q_x_cold_f T nf1 nf5 nf6 nf7 nf9 fa o i n0 s0 im iz rw t0 u0 h0 y0 sv nn nm nl no nu n1 n2 n3 n4 n5 n6 n7 n8 n9 n10 nf2 nf3 nf4)) hC V ⟨(Nat.le_of_ble_eq_true rfl), (Nat.le_of_ble_eq_true rfl)⟩ ⟨((((nI jha) - (nI jlo)) / (nI jco)) + (nI 1)), rfl, rfl, (cd_y h_n f_2 f_3 ejha (by omega) ejlo (by omega) ejco (by omega) ((cn_2 hge (by omega) (by omega)).trans (cd_dv rfl rfl rfl (by omega) hge (by omega) (by omega))))⟩ dX7_cold_79
        · skip
          rw [show (0 : Int32) = nI 0 from rfl] at c_7
          have c_7 := b_eq (by omega) (by omega) c_7
          refine lv_iconst (v := (-1)) hx hb dX7_cold_64 (by decide +kernel) ?_
          exact g_iret (Qr := (q_x_cold_f T nf1 nf5 nf6 nf7 nf9 fa o i n0 s0 im iz rw t0 u0 h0 y0 sv nn nm nl no nu n1 n2 n3 n4 n5 n6 n7 n8 n9 n10 nf2 nf3 nf4)) hC V ⟨(Nat.le_of_ble_eq_true rfl), (Nat.le_of_ble_eq_true rfl)⟩ ⟨(-1), rfl, rfl, (cd_y h_n f_2 f_3 ejha (by omega) ejlo (by omega) ejco (by omega) (cn_1 hge (by omega)))⟩ dX7_cold_65
    · skip
      refine lv_iconst (v := (nI 0)) hx hb dX7_cold_38 (by decide +kernel) ?_
      exact g_iret (Qr := (q_x_cold_f T nf1 nf5 nf6 nf7 nf9 fa o i n0 s0 im iz rw t0 u0 h0 y0 sv nn nm nl no nu n1 n2 n3 n4 n5 n6 n7 n8 n9 n10 nf2 nf3 nf4)) hC V ⟨(Nat.le_of_ble_eq_true rfl), (Nat.le_of_ble_eq_true rfl)⟩ ⟨(nI 0), rfl, rfl, (cd_y h_n f_2 f_3 ejha (by omega) ejlo (by omega) ejco (by omega) (cn_0 (cd_lt rfl rfl (by omega) (by omega) c_5)))⟩ dX7_cold_39
  · have V : gW D T A s [(o, .inr (7, [.ref n0, .ref s0, .ref im, .ref iz, .ref rw, .ref t0, .ref u0, .ref h0, .ref y0, sv])), (n0, .inr (5, [.int (nI nn), .int nm, .int nl, .int no, .int nu, .ref n1, .ref n2, .ref n3, .ref n4, .ref n5, .ref n6, .ref n7, .ref n8, .ref n9, .ref n10])), (n2, .inl (T 0, 10, .inl nf2)), (n3, .inl (T 0, 10, .inl nf3)), (n4, .inl (T 0, 10, .inl nf4))] H locs := V _ [1] rfl rfl rfl (by decide +kernel) rfl
    show W p l e _ s m args below meth c H locs _ _ _ (F0 m 8 ls [.int (nI 0)])
    refine lv_if_ne (tgt := 14) hx hb dX7_cold_8 (by decide) (fun c => absurd (show (nI 0) = 0 by decide +kernel) c) (fun _ => ?_)
    refine lv_bipush (v := (-2)) hx hb dX7_cold_11 (by decide +kernel) ?_
    exact g_iret (Qr := (q_x_cold_f T nf1 nf5 nf6 nf7 nf9 fa o i n0 s0 im iz rw t0 u0 h0 y0 sv nn nm nl no nu n1 n2 n3 n4 n5 n6 n7 n8 n9 n10 nf2 nf3 nf4)) hC V ⟨(Nat.le_of_ble_eq_true rfl), (Nat.le_of_ble_eq_true rfl)⟩ ⟨(-2), rfl, rfl, (cd_o f_4)⟩ dX7_cold_13

def q_m_cold_f (T : Nat → ClassId) (n : Nat) (o : Nat) (i : Int32) (w0 : Int32) (g1 : Nat) (g2 : Nat) (g3 : Nat) (g4 : Nat) (tp : Nat) (w6 : Int32) (w7 : Int32) (w8 : Int32) (w9 : Int32) (w10 : Int32) (w11 : Int32) (w12 : Int32) (w13 : Int32) (w14 : Int32) (g15 : Nat) (w16 : Int32) (g17 : Nat) (w18 : Int32) (w19 : Int32) (g20 : Nat) (w21 : Int32) (g22 : Nat) (g23 : Nat) (g24 : Nat) (w25 : Int32) (w26 : Int32) (w27 : Int32) (g28 : Nat) (g29 : Nat) (w30 : Int32) (g31 : Nat) (g32 : Nat) (g33 : Nat) (fa : Nat → Int32) : Option Value → va_W → Prop := fun rr ww => (∃ (z : Int32), rr = some (.int z) ∧ ww = [(o, .inr (8, [.int (nI 0), .ref g1, .ref g2, .ref g3, .ref g4, .int (nI tp), .int w6, .int w7, .int w8, .int w9, .int w10, .int w11, .int w12, .int w13, .int w14, .ref g15, .int w16, .ref g17, .int w18, .int w19, .ref g20, .int w21, .ref g22, .ref g23, .ref g24, .int w25, .int w26, .int w27, .ref g28, .ref g29, .int w30, .ref g31, .ref g32, .ref g33])), (g1, .inl (T 0, 282, .inl fa))] ∧ z = cdA n fa i)
set_option maxHeartbeats 4000000 in
set_option maxRecDepth 100000 in
theorem m_cold_f (l : Launch) (D : va_G) (T : Nat → ClassId) (n : Nat) (o : Nat) (i : Int32) (w0 : Int32) (g1 : Nat) (g2 : Nat) (g3 : Nat) (g4 : Nat) (tp : Nat) (w6 : Int32) (w7 : Int32) (w8 : Int32) (w9 : Int32) (w10 : Int32) (w11 : Int32) (w12 : Int32) (w13 : Int32) (w14 : Int32) (g15 : Nat) (w16 : Int32) (g17 : Nat) (w18 : Int32) (w19 : Int32) (g20 : Nat) (w21 : Int32) (g22 : Nat) (g23 : Nat) (g24 : Nat) (w25 : Int32) (w26 : Int32) (w27 : Int32) (g28 : Nat) (g29 : Nat) (w30 : Int32) (g31 : Nat) (g32 : Nat) (g33 : Nat) (fa : Nat → Int32) (h_a : MI n fa) (h_lb : LB fa) : Ct l yX8_cold cX8_cold 4 (some .int) 2 0 0 D T [.ref o, .int i] [(o, .inr (8, [.int w0, .ref g1, .ref g2, .ref g3, .ref g4, .int (nI tp), .int w6, .int w7, .int w8, .int w9, .int w10, .int w11, .int w12, .int w13, .int w14, .ref g15, .int w16, .ref g17, .int w18, .int w19, .ref g20, .int w21, .ref g22, .ref g23, .ref g24, .int w25, .int w26, .int w27, .ref g28, .ref g29, .int w30, .ref g31, .ref g32, .ref g33])), (g1, .inl (T 0, 282, .inl fa))] (q_m_cold_f T n o i w0 g1 g2 g3 g4 tp w6 w7 w8 w9 w10 w11 w12 w13 w14 g15 w16 g17 w18 w19 g20 w21 g22 g23 g24 w25 w26 w27 g28 g29 w30 g31 g32 g33 fa) := by
  refine Ct.of (cc := cX8_cold) (maxL := 4) (ret := (some .int)) (by decide) (Nat.le_of_ble_eq_true rfl) ?_
  intro p e s m args below meth c A ls hC hnm V hl
  obtain ⟨hx, hb, hr, hml, hown, hts, hlocks⟩ := id hC
  generalize hH : s.heap = H at V ⊢
  clear hH
  have hl : lv_has ls 4 [(0, .ref o), (1, .int i)] := hl
  generalize hlo : ([] : List Loc) = locs at V ⊢
  clear hlo
  have ms0 := ms_rf h_a
  have hn10 := h_a.1
  refine lv_aload_n hx hb dX8_cold_0 rfl (lv_at hl 0 rfl) ?_
  refine lv_iconst (v := (nI 0)) hx hb dX8_cold_1 (by decide +kernel) ?_
  refine g_put hC V (ci := 8) uwX8 tyX8 tyX8_ok nmX8 0 rfl rfl 0 (by decide) w_912 rfl rfl rfl rfl (Nat.le_of_ble_eq_true rfl) (ws' := [(o, .inr (8, [.int (nI 0), .ref g1, .ref g2, .ref g3, .ref g4, .int (nI tp), .int w6, .int w7, .int w8, .int w9, .int w10, .int w11, .int w12, .int w13, .int w14, .ref g15, .int w16, .ref g17, .int w18, .int w19, .ref g20, .int w21, .ref g22, .ref g23, .ref g24, .int w25, .int w26, .int w27, .ref g28, .ref g29, .int w30, .ref g31, .ref g32, .ref g33])), (g1, .inl (T 0, 282, .inl fa))]) rfl dX8_cold_2 (fun H locs V => ?_)
  refine lv_aload_n hx hb dX8_cold_5 rfl (lv_at hl 0 rfl) ?_
  refine lv_iload_n hx hb dX8_cold_6 rfl (lv_at hl 1 rfl) ?_
  refine g_callV (wr := []) (nA := 1) hC V hl.1 (m_isSmith_f l D T n o i (nI 0) g1 g2 g3 g4 tp w6 w7 w8 w9 w10 w11 w12 w13 w14 g15 w16 g17 w18 w19 g20 w21 g22 g23 g24 w25 w26 w27 g28 g29 w30 g31 g32 g33 fa h_a) w_1083 w_1085 w_s46 w_9 w_1086 (by decide +kernel) rfl ⟨(Nat.le_of_ble_eq_true rfl), (Nat.le_of_ble_eq_true rfl)⟩ 0 (ci := 8) rfl rfl [0, 1] [] rfl rfl rfl rfl (by decide) (Nat.le_of_ble_eq_true rfl) dX8_cold_7 ⟨(Nat.le_of_ble_eq_true rfl), (Nat.le_of_ble_eq_true rfl)⟩ rfl (fun r w1 H locs hQ V => ?_)
  rcases hQ with ⟨j_1, rfl, rfl, f_2, f_3⟩ | ⟨rfl, rfl, f_4⟩
  · have V : gW D T A s [(o, .inr (8, [.int (nI 0), .ref g1, .ref g2, .ref g3, .ref g4, .int (nI tp), .int w6, .int w7, .int w8, .int w9, .int w10, .int w11, .int w12, .int w13, .int w14, .ref g15, .int w16, .ref g17, .int w18, .int w19, .ref g20, .int w21, .ref g22, .ref g23, .ref g24, .int w25, .int w26, .int w27, .ref g28, .ref g29, .int w30, .ref g31, .ref g32, .ref g33])), (g1, .inl (T 0, 282, .inl fa))] H locs := V
    show W p l e _ s m args below meth c H locs _ _ _ (F0 m 10 ls [.int (nI 1)])
    rw [f_2] at hl
    obtain ⟨jha, hjha, ejha⟩ := (h_lb j_1 (by omega)).1
    obtain ⟨jlo, hjlo, ejlo⟩ := (h_lb j_1 (by omega)).2
    obtain ⟨jco, hjco, ejco⟩ := mi_cool h_a f_3
    refine lv_if_ne (tgt := 16) hx hb dX8_cold_10 (by decide) (fun _ => ?_) (fun c => absurd (show (nI 1) = 0 from c) (by decide +kernel))
    refine lv_aload_n hx hb dX8_cold_16 rfl (lv_at hl 0 rfl) ?_
    refine g_get hC V (ci := 8) uwX8 0 rfl rfl 1 (by decide) w_913 rfl rfl dX8_cold_17 ?_
    refine lv_bipush (v := (nI 24)) hx hb dX8_cold_20 (by decide +kernel) ?_
    refine lv_iload_n hx hb dX8_cold_22 rfl (lv_at hl 1 rfl) ?_
    refine lv_iadd hx hb dX8_cold_23 ?_
    refine g_vi (y := (nI (24 + j_1))) (nI_add _ _) ?_
    refine g_iald hC V 1 rfl (vp_in_nI (by omega) (by omega)) (v := (nI jha)) (by rw [nI_clamp (by omega)]; exact ejha) dX8_cold_24 ?_
    refine lv_istore_n (lv' := [(2, .int (nI jha)), (0, .ref o), (1, .int (nI j_1))]) hx hb dX8_cold_25 rfl hl (by decide) rfl (fun ls hl => ?_)
    refine lv_iconst (v := (nI 0)) hx hb dX8_cold_26 (by decide +kernel) ?_
    refine lv_istore_n (lv' := [(3, .int (nI 0)), (2, .int (nI jha)), (0, .ref o), (1, .int (nI j_1))]) hx hb dX8_cold_27 rfl hl (by decide) rfl (fun ls hl => ?_)
    have L_5 : ∀ (fu : Nat) (now_ : Nat) (kc : Nat), now_ ≤ 200 → CDI jha jlo jco kc now_ → now_ < fu → ∀ (H : Heap) (locs : List Loc) (ls : Array Slot), gW D T A s [(o, .inr (8, [.int (nI 0), .ref g1, .ref g2, .ref g3, .ref g4, .int (nI tp), .int w6, .int w7, .int w8, .int w9, .int w10, .int w11, .int w12, .int w13, .int w14, .ref g15, .int w16, .ref g17, .int w18, .int w19, .ref g20, .int w21, .ref g22, .ref g23, .ref g24, .int w25, .int w26, .int w27, .ref g28, .ref g29, .int w30, .ref g31, .ref g32, .ref g33])), (g1, .inl (T 0, 282, .inl fa))] H locs → lv_has ls 4 [(3, .int (nI kc)), (2, .int (nI now_)), (0, .ref o), (1, .int (nI j_1))] → W p l e (rmD 2 0 0) s m args below meth c H locs 0 0 (MQ below (gQ D A (q_m_cold_f T n o i w0 g1 g2 g3 g4 tp w6 w7 w8 w9 w10 w11 w12 w13 w14 g15 w16 g17 w18 w19 g20 w21 g22 g23 g24 w25 w26 w27 g28 g29 w30 g31 g32 g33 fa)) args s 0 0 A) (F0 m 28 ls []) := by
      intro fu_28
      induction fu_28 with
      | zero => intro now_ kc hnow hW hmu; exact absurd hmu (Nat.not_lt_zero _)
      | succ fu_28 ih_28 =>
        intro now_ kc hnow hW hmu_28 H locs ls V hl
        refine lv_iload_n hx hb dX8_cold_28 rfl (lv_at hl 1 rfl) ?_
        refine lv_aload_n hx hb dX8_cold_29 rfl (lv_at hl 2 rfl) ?_
        refine g_get hC V (ci := 8) uwX8 0 rfl rfl 1 (by decide) w_913 rfl rfl dX8_cold_30 ?_
        refine lv_bipush (v := (nI 34)) hx hb dX8_cold_33 (by decide +kernel) ?_
        refine lv_iload_n hx hb dX8_cold_35 rfl (lv_at hl 3 rfl) ?_
        refine lv_iadd hx hb dX8_cold_36 ?_
        refine g_vi (y := (nI (34 + j_1))) (nI_add _ _) ?_
        refine g_iald hC V 1 rfl (vp_in_nI (by omega) (by omega)) (v := (nI jlo)) (by rw [nI_clamp (by omega)]; exact ejlo) dX8_cold_37 ?_
        refine lv_icmp_lt (tgt := 80) hx hb dX8_cold_38 (by decide) (fun c_6 => ?_) (fun c_6 => ?_)
        · skip
          have c_6 := b_lt (by omega) (by omega) c_6
          refine lv_iload_n hx hb dX8_cold_80 rfl (lv_at hl 0 rfl) ?_
          exact g_iret (Qr := (q_m_cold_f T n o i w0 g1 g2 g3 g4 tp w6 w7 w8 w9 w10 w11 w12 w13 w14 g15 w16 g17 w18 w19 g20 w21 g22 g23 g24 w25 w26 w27 g28 g29 w30 g31 g32 g33 fa)) hC V ⟨(Nat.le_of_ble_eq_true rfl), (Nat.le_of_ble_eq_true rfl)⟩ ⟨(nI kc), rfl, rfl, (cd_y hn10 f_2 f_3 ejha (by omega) ejlo (by omega) ejco (by omega) (ci_e hW (by omega)))⟩ dX8_cold_81
        · skip
          have c_6 := b_nlt (by omega) (by omega) c_6
          refine lv_aload_n hx hb dX8_cold_41 rfl (lv_at hl 2 rfl) ?_
          refine g_get hC V (ci := 8) uwX8 0 rfl rfl 1 (by decide) w_913 rfl rfl dX8_cold_42 ?_
          refine lv_bipush (v := (nI 14)) hx hb dX8_cold_45 (by decide +kernel) ?_
          refine lv_iload_n hx hb dX8_cold_47 rfl (lv_at hl 3 rfl) ?_
          refine lv_iadd hx hb dX8_cold_48 ?_
          refine g_vi (y := (nI (14 + j_1))) (nI_add _ _) ?_
          refine g_iald hC V 1 rfl (vp_in_nI (by omega) (by omega)) (v := (nI jco)) (by rw [nI_clamp (by omega)]; exact ejco) dX8_cold_49 ?_
          refine lv_if_eq (tgt := 57) hx hb dX8_cold_50 (by decide) (fun c_7 => ?_) (fun c_7 => ?_)
          · skip
            rw [show (0 : Int32) = nI 0 from rfl] at c_7
            have c_7 := b_eq (by omega) (by omega) c_7
            refine lv_iconst (v := (-1)) hx hb dX8_cold_57 (by decide +kernel) ?_
            exact g_iret (Qr := (q_m_cold_f T n o i w0 g1 g2 g3 g4 tp w6 w7 w8 w9 w10 w11 w12 w13 w14 g15 w16 g17 w18 w19 g20 w21 g22 g23 g24 w25 w26 w27 g28 g29 w30 g31 g32 g33 fa)) hC V ⟨(Nat.le_of_ble_eq_true rfl), (Nat.le_of_ble_eq_true rfl)⟩ ⟨(-1), rfl, rfl, (cd_y hn10 f_2 f_3 ejha (by omega) ejlo (by omega) ejco (by omega) (ci_n hW (by omega) (by omega)))⟩ dX8_cold_58
          · skip
            rw [show (0 : Int32) = nI 0 from rfl] at c_7
            have c_7 := b_ne (by omega) (by omega) c_7
            refine lv_iload_n hx hb dX8_cold_53 rfl (lv_at hl 1 rfl) ?_
            refine lv_if_ne (tgt := 59) hx hb dX8_cold_54 (by decide) (fun c_8 => ?_) (fun c_8 => ?_)
            · skip
              rw [show (0 : Int32) = nI 0 from rfl] at c_8
              have c_8 := b_ne (by omega) (by omega) c_8
              refine lv_iload_n hx hb dX8_cold_59 rfl (lv_at hl 1 rfl) ?_
              refine lv_aload_n hx hb dX8_cold_60 rfl (lv_at hl 2 rfl) ?_
              refine g_get hC V (ci := 8) uwX8 0 rfl rfl 1 (by decide) w_913 rfl rfl dX8_cold_61 ?_
              refine lv_bipush (v := (nI 14)) hx hb dX8_cold_64 (by decide +kernel) ?_
              refine lv_iload_n hx hb dX8_cold_66 rfl (lv_at hl 3 rfl) ?_
              refine lv_iadd hx hb dX8_cold_67 ?_
              refine g_vi (y := (nI (14 + j_1))) (nI_add _ _) ?_
              refine g_iald hC V 1 rfl (vp_in_nI (by omega) (by omega)) (v := (nI jco)) (by rw [nI_clamp (by omega)]; exact ejco) dX8_cold_68 ?_
              refine lv_isub hx hb dX8_cold_69 ?_
              refine g_callSU (nA := 1) hC V hl.1 (m_inBounds l D T ((nI now_) - (nI jco))) w_1133 w_1134 w_9 w_1135 (by decide +kernel) rfl ⟨(Nat.le_of_ble_eq_true rfl), (Nat.le_of_ble_eq_true rfl)⟩ [] rfl rfl (Nat.le_of_ble_eq_true rfl) dX8_cold_70 ⟨(Nat.le_of_ble_eq_true rfl), (Nat.le_of_ble_eq_true rfl)⟩ rfl (fun r w1 H locs hQ V => ?_)
              obtain ⟨z_9, rfl, rfl, f_10, f_11⟩ := hQ
              have V : gW D T A s [(o, .inr (8, [.int (nI 0), .ref g1, .ref g2, .ref g3, .ref g4, .int (nI tp), .int w6, .int w7, .int w8, .int w9, .int w10, .int w11, .int w12, .int w13, .int w14, .ref g15, .int w16, .ref g17, .int w18, .int w19, .ref g20, .int w21, .ref g22, .ref g23, .ref g24, .int w25, .int w26, .int w27, .ref g28, .ref g29, .int w30, .ref g31, .ref g32, .ref g33])), (g1, .inl (T 0, 282, .inl fa))] H locs := V _ [] rfl rfl rfl (by decide +kernel) rfl
              show W p l e _ s m args below meth c H locs _ _ _ (F0 m 73 ls [.int z_9])
              obtain ⟨r_12, hr_12, er_12⟩ := f_10
              refine g_vi (y := nI r_12) er_12 ?_
              have hcd := ib_cd (a := now_) (b := jco) (by omega) (by omega) (by omega) (er_12.symm.trans f_11)
              refine lv_istore_n (lv' := [(2, .int (nI r_12)), (3, .int (nI kc)), (0, .ref o), (1, .int (nI j_1))]) hx hb dX8_cold_73 rfl hl (by decide) rfl (fun ls hl => ?_)
              refine lv_iinc (v := (nI (kc + 1))) (lv' := [(3, .int (nI (kc + 1))), (2, .int (nI r_12)), (0, .ref o), (1, .int (nI j_1))]) hx hb dX8_cold_74 hl (k := 1) rfl (nI_1 _) (by decide) rfl (fun ls hl => ?_)
              refine lv_goto (tgt := 28) hx hb dX8_cold_77 (by decide) ?_
              exact ih_28 r_12 (kc + 1) (by omega) (by rw [hcd]; exact ci_s hW (by omega) (by omega)) (by omega) _ _ _ V (lv_sub hl [0, 1, 2, 3] rfl)
            · skip
              rw [show (0 : Int32) = nI 0 from rfl] at c_8
              have c_8 := b_eq (by omega) (by omega) c_8
              refine lv_iconst (v := (-1)) hx hb dX8_cold_57 (by decide +kernel) ?_
              exact g_iret (Qr := (q_m_cold_f T n o i w0 g1 g2 g3 g4 tp w6 w7 w8 w9 w10 w11 w12 w13 w14 g15 w16 g17 w18 w19 g20 w21 g22 g23 g24 w25 w26 w27 g28 g29 w30 g31 g32 g33 fa)) hC V ⟨(Nat.le_of_ble_eq_true rfl), (Nat.le_of_ble_eq_true rfl)⟩ ⟨(-1), rfl, rfl, (cd_y hn10 f_2 f_3 ejha (by omega) ejlo (by omega) ejco (by omega) (ci_n hW (by omega) (by omega)))⟩ dX8_cold_58
    exact L_5 _ jha 0 (by omega) ci_0 (Nat.lt_succ_self _) _ _ _ V (lv_sub hl [0, 1, 2, 3] rfl)
  · have V : gW D T A s [(o, .inr (8, [.int (nI 0), .ref g1, .ref g2, .ref g3, .ref g4, .int (nI tp), .int w6, .int w7, .int w8, .int w9, .int w10, .int w11, .int w12, .int w13, .int w14, .ref g15, .int w16, .ref g17, .int w18, .int w19, .ref g20, .int w21, .ref g22, .ref g23, .ref g24, .int w25, .int w26, .int w27, .ref g28, .ref g29, .int w30, .ref g31, .ref g32, .ref g33])), (g1, .inl (T 0, 282, .inl fa))] H locs := V
    show W p l e _ s m args below meth c H locs _ _ _ (F0 m 10 ls [.int (nI 0)])
    refine lv_if_ne (tgt := 16) hx hb dX8_cold_10 (by decide) (fun c => absurd (show (nI 0) = 0 by decide +kernel) c) (fun _ => ?_)
    refine lv_bipush (v := (-2)) hx hb dX8_cold_13 (by decide +kernel) ?_
    exact g_iret (Qr := (q_m_cold_f T n o i w0 g1 g2 g3 g4 tp w6 w7 w8 w9 w10 w11 w12 w13 w14 g15 w16 g17 w18 w19 g20 w21 g22 g23 g24 w25 w26 w27 g28 g29 w30 g31 g32 g33 fa)) hC V ⟨(Nat.le_of_ble_eq_true rfl), (Nat.le_of_ble_eq_true rfl)⟩ ⟨(-2), rfl, rfl, (cd_o f_4)⟩ dX8_cold_15
