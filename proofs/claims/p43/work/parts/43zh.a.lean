/-! count -/
def suF (f : Nat → Int32) (m : Nat) : Nat → Int32
  | 0 => nI 0
  | k + 1 => suF f m k + f (m + k)
theorem su_s {f : Nat → Int32} {m k : Nat} {x y : Int32} (h : x = suF f m k) (e : y = f (m + k)) : x + y = suF f m (k + 1) := by
  show x + y = suF f m k + f (m + k); rw [h, e]
theorem su_sb {f : Nat → Int32} : ∀ k, suF f 74 k = sbF f k
  | 0 => rfl
  | k + 1 => by show suF f 74 k + f (74 + k) = sbF f k + f (74 + k); rw [su_sb k]
def wkO (f : Nat → Int32) : Nat → Int32
  | 0 => nI 0
  | k + 1 => wkO f k ||| (if warmP f k then (nI 1) <<< ((nI k) &&& 31) else nI 0)
theorem wk_y {f : Nat → Int32} {k : Nat} {x : Int32} (h : x = wkO f k) (c : warmP f k) : x ||| ((nI 1) <<< ((nI k) &&& 31)) = wkO f (k + 1) := by
  show _ = wkO f k ||| (if warmP f k then (nI 1) <<< ((nI k) &&& 31) else nI 0); rw [if_pos c, h]
theorem wk_n {f : Nat → Int32} {k : Nat} {x : Int32} (h : x = wkO f k) (c : ¬ warmP f k) : x ||| nI 0 = wkO f (k + 1) := by
  show _ = wkO f k ||| (if warmP f k then (nI 1) <<< ((nI k) &&& 31) else nI 0); rw [if_neg c, h]
def coA (n : Nat) (f : Nat → Int32) (t : Nat) (w : Int32) : Int32 := if w = nI 0 then nI n else if w = nI 1 then f 1 else if w = nI 2 then donF f n else if w = nI 3 then sbF f n else if w = nI 4 then wkO f n else if w = nI 5 then suF f 24 n else if w = nI 6 then nI t else if w = nI 7 then f 3 else if w = nI 8 then f 2 else -1
section CO
variable {n t : Nat} {f : Nat → Int32} {w v : Int32}
theorem cou_0 (e : w = nI 0) (h : v = nI n) : v = coA n f t w := by subst e; unfold coA; rw [if_pos rfl]; exact h
theorem cou_1 (e : w = nI 1) (h : v = f 1) : v = coA n f t w := by subst e; unfold coA; rw [if_neg (by decide +kernel), if_pos rfl]; exact h
theorem cou_2 (e : w = nI 2) (h : v = donF f n) : v = coA n f t w := by subst e; unfold coA; rw [if_neg (by decide +kernel), if_neg (by decide +kernel), if_pos rfl]; exact h
theorem cou_3 (e : w = nI 3) (h : v = sbF f n) : v = coA n f t w := by subst e; unfold coA; rw [if_neg (by decide +kernel), if_neg (by decide +kernel), if_neg (by decide +kernel), if_pos rfl]; exact h
theorem cou_4 (e : w = nI 4) (h : v = wkO f n) : v = coA n f t w := by subst e; unfold coA; rw [if_neg (by decide +kernel), if_neg (by decide +kernel), if_neg (by decide +kernel), if_neg (by decide +kernel), if_pos rfl]; exact h
theorem cou_5 (e : w = nI 5) (h : v = suF f 24 n) : v = coA n f t w := by subst e; unfold coA; rw [if_neg (by decide +kernel), if_neg (by decide +kernel), if_neg (by decide +kernel), if_neg (by decide +kernel), if_neg (by decide +kernel), if_pos rfl]; exact h
theorem cou_6 (e : w = nI 6) (h : v = nI t) : v = coA n f t w := by subst e; unfold coA; rw [if_neg (by decide +kernel), if_neg (by decide +kernel), if_neg (by decide +kernel), if_neg (by decide +kernel), if_neg (by decide +kernel), if_neg (by decide +kernel), if_pos rfl]; exact h
theorem cou_7 (e : w = nI 7) (h : v = f 3) : v = coA n f t w := by subst e; unfold coA; rw [if_neg (by decide +kernel), if_neg (by decide +kernel), if_neg (by decide +kernel), if_neg (by decide +kernel), if_neg (by decide +kernel), if_neg (by decide +kernel), if_neg (by decide +kernel), if_pos rfl]; exact h
theorem cou_8 (e : w = nI 8) (h : v = f 2) : v = coA n f t w := by subst e; unfold coA; rw [if_neg (by decide +kernel), if_neg (by decide +kernel), if_neg (by decide +kernel), if_neg (by decide +kernel), if_neg (by decide +kernel), if_neg (by decide +kernel), if_neg (by decide +kernel), if_neg (by decide +kernel), if_pos rfl]; exact h
theorem cou_d (h0 : ¬ w = nI 0) (h1 : ¬ w = nI 1) (h2 : ¬ w = nI 2) (h3 : ¬ w = nI 3) (h4 : ¬ w = nI 4) (h5 : ¬ w = nI 5) (h6 : ¬ w = nI 6) (h7 : ¬ w = nI 7) (h8 : ¬ w = nI 8) : -1 = coA n f t w := by unfold coA; rw [if_neg h0, if_neg h1, if_neg h2, if_neg h3, if_neg h4, if_neg h5, if_neg h6, if_neg h7, if_neg h8]
end CO
/-! how often one was BURNT is kept -/
theorem sb_up {n k : Nat} {f : Nat → Int32} {x : Int32} (hn : n ≤ 10) (h : k < 74 ∨ 84 ≤ k) : sbF (upd f k x) n = sbF f n := by
  have A : ∀ m, m ≤ 10 → sbF (upd f k x) m = sbF f m := by
    intro m
    induction m with
    | zero => intro _; rfl
    | succ m ih =>
      intro hm
      show sbF (upd f k x) m + upd f k x (74 + m) = sbF f m + f (74 + m)
      rw [ih (by omega), up_other (by omega)]
  exact A n hn
theorem sb_ms {c n : Nat} {f g : Nat → Int32} (hn : n ≤ 10) (hc : 94 ≤ c) (M : ∀ j, 94 ≤ j → g j = f j) : sbF (fun j => f (c + j)) n = sbF (fun j => g (c + j)) n := sb_ext hn (fun j _ => (M _ (by omega)).symm)
theorem sb_rope {n : Nat} {f : Nat → Int32} {i to : Int32} (hn : n ≤ 10) : sbF (ropeF n f i to) n = sbF f n := by
  unfold ropeF
  split
  · exact sb_up hn (Or.inr (by omega))
  · rfl
theorem sb_arm {n : Nat} {f : Nat → Int32} {i b : Int32} (hn : n ≤ 10) : sbF (armF n f i b) n = sbF f n := by
  unfold armF
  split
  · rename_i q
    obtain ⟨j, hj, ej⟩ := g_idx (n := n) (by omega) (fun r => q.1 (Or.inl r)) (fun r => q.1 (Or.inr r))
    rw [ej, nI_clamp (by omega)]; exact sb_up hn (Or.inl (by omega))
  · rfl
theorem sb_pie {n : Nat} {f : Nat → Int32} {i b : Int32} (hn : n ≤ 10) : sbF (pieF n f i b) n = sbF f n := by
  unfold pieF
  split
  · rename_i q
    obtain ⟨j, hj, ej⟩ := g_idx (n := n) (by omega) (fun r => q.1 (Or.inl r)) (fun r => q.1 (Or.inr r))
    rw [ej, nI_clamp (by omega), sb_up hn (Or.inl (by omega)), sb_up hn (Or.inl (by omega))]
  · rfl
def BZ (f : Nat → Int32) : Prop := ∀ i, i < 10 → f (74 + i) = nI 0
theorem bz_up {f : Nat → Int32} {k : Nat} {x : Int32} (h : BZ f) (hk : k < 74 ∨ 84 ≤ k) : BZ (upd f k x) := fun i hi => by rw [up_other (by omega)]; exact h i hi
theorem bz_sm {t : Nat → Int32} {sz n : Nat} {p : PS} {f : Nat → Int32} (hn : n ≤ 10) (h : BZ f) : BZ (smF t sz n p f) := by
  by_cases c : n = 10
  · rw [smF_10 c]; exact h
  · by_cases c2 : (sm6 t sz p).2.2.2.2.1 = 0
    · rw [smF_0 c c2]; unfold smU
      exact bz_up (bz_up (bz_up (bz_up (bz_up (bz_up (bz_up h (Or.inl (by omega))) (Or.inl (by omega))) (Or.inl (by omega))) (Or.inl (by omega))) (Or.inl (by omega))) (Or.inl (by omega))) (Or.inl (by omega))
    · rw [smF_w c c2]; exact h
theorem bz_bl {t : Nat → Int32} {sz n : Nat} {p : PS} {f : Nat → Int32} (h : BZ f) : BZ (blF t sz n p f) := by
  unfold blF
  split
  · exact bz_up h (Or.inr (by omega))
  · exact h
theorem bz_lnA {t : Nat → Int32} {sz : Nat} {s : RLs} (h : s.1 ≤ 10 ∧ BZ s.2.2) : (lnA t sz s).1 ≤ 10 ∧ BZ (lnA t sz s).2.2 := by
  unfold lnA
  split
  · exact ⟨lb_smn h.1, bz_sm h.1 h.2⟩
  · split
    · exact ⟨h.1, bz_bl h.2⟩
    · split
      · exact ⟨h.1, bz_up h.2 (Or.inl (by decide))⟩
      · exact h
theorem bz_it {t : Nat → Int32} {sz : Nat} {s : RLs} (h : s.1 ≤ 10 ∧ BZ s.2.2) : ∀ k, (itS t sz s k).1 ≤ 10 ∧ BZ (itS t sz s k).2.2
  | 0 => h
  | k + 1 => ⟨(bz_lnA (bz_it h k)).1, bz_up (bz_lnA (bz_it h k)).2 (Or.inl (by decide))⟩
theorem bz_fr {f : Nat → Int32} : BZ (frI f) := fun i hi => by unfold frI; rw [if_pos (by omega), if_neg (by omega)]
theorem sb_str {t : Nat → Int32} {sz N n : Nat} {p : PS} {f g : Nat → Int32} {s : RLs} {U u : Int32} (c : CU s U u N n) (h : FN t sz (0, p, frI g) s) (hN : N ≤ 10) (e : u = sbF f n) : U = sbF (stG f s) N := by
  rcases c with ⟨c1, c2⟩ | ⟨c1, c2, c3⟩
  · obtain ⟨K, eK, _⟩ := h
    have hz : BZ s.2.2 := by rw [eK]; exact (bz_it (s := (0, p, frI g)) ⟨Nat.zero_le _, bz_fr⟩ K).2
    rw [c2, sb_z (f := stG f s) (fun i hi => by unfold stG; rw [if_pos ⟨c1, by omega⟩, if_neg (by omega)]; exact hz i hi) N hN]
  · rw [← stG_w c1, c2, c3]; exact e

def q_s_heatTogether_f (T : Nat → ClassId) (fa : Nat → Int32) (a0 : Nat) (an : Nat) (am : Int32) (al : Int32) (ao : Int32) (au : Int32) (a1 : Nat) (a2 : Nat) (a3 : Nat) (a4 : Nat) (a5 : Nat) (a6 : Nat) (a7 : Nat) (a8 : Nat) (a9 : Nat) (a10 : Nat) (af3 : Nat → Int32) : Option Value → va_W → Prop := fun rr ww => (∃ (z : Int32), rr = some (.int z) ∧ ww = [(a0, .inr (5, [.int (nI an), .int am, .int al, .int ao, .int au, .ref a1, .ref a2, .ref a3, .ref a4, .ref a5, .ref a6, .ref a7, .ref a8, .ref a9, .ref a10])), (a3, .inl (T 0, 10, .inl af3))] ∧ z = suF fa 24 an)
set_option maxHeartbeats 4000000 in
set_option maxRecDepth 100000 in
theorem s_heatTogether_f (l : Launch) (D : va_G) (T : Nat → ClassId) (fa : Nat → Int32) (a0 : Nat) (an : Nat) (am : Int32) (al : Int32) (ao : Int32) (au : Int32) (a1 : Nat) (a2 : Nat) (a3 : Nat) (a4 : Nat) (a5 : Nat) (a6 : Nat) (a7 : Nat) (a8 : Nat) (a9 : Nat) (a10 : Nat) (af3 : Nat → Int32) (h_n : an ≤ 10) (h_s3 : ∀ i, i < an → af3 i = fa (24 + i)) : Ct l yX5_heatTogether cX5_heatTogether 3 (some .int) 0 0 0 D T [.ref a0] [(a0, .inr (5, [.int (nI an), .int am, .int al, .int ao, .int au, .ref a1, .ref a2, .ref a3, .ref a4, .ref a5, .ref a6, .ref a7, .ref a8, .ref a9, .ref a10])), (a3, .inl (T 0, 10, .inl af3))] (q_s_heatTogether_f T fa a0 an am al ao au a1 a2 a3 a4 a5 a6 a7 a8 a9 a10 af3) := by
  refine Ct.of (cc := cX5_heatTogether) (maxL := 3) (ret := (some .int)) (by decide) (Nat.le_of_ble_eq_true rfl) ?_
  intro p e s m args below meth c A ls hC hnm V hl
  obtain ⟨hx, hb, hr, hml, hown, hts, hlocks⟩ := id hC
  generalize hH : s.heap = H at V ⊢
  clear hH
  have hl : lv_has ls 3 [(0, .ref a0)] := hl
  generalize hlo : ([] : List Loc) = locs at V ⊢
  clear hlo
  refine lv_iconst (v := (nI 0)) hx hb dX5_heatTogether_0 (by decide +kernel) ?_
  refine lv_istore_n (lv' := [(1, .int (nI 0)), (0, .ref a0)]) hx hb dX5_heatTogether_1 rfl hl (by decide) rfl (fun ls hl => ?_)
  refine lv_iconst (v := (nI 0)) hx hb dX5_heatTogether_2 (by decide +kernel) ?_
  refine lv_istore_n (lv' := [(2, .int (nI 0)), (1, .int (nI 0)), (0, .ref a0)]) hx hb dX5_heatTogether_3 rfl hl (by decide) rfl (fun ls hl => ?_)
  have L_1 : ∀ (fu : Nat) (k4 : Nat) (x1 : Int32), k4 ≤ an → x1 = suF fa 24 k4 → an - k4 < fu → ∀ (H : Heap) (locs : List Loc) (ls : Array Slot), gW D T A s [(a0, .inr (5, [.int (nI an), .int am, .int al, .int ao, .int au, .ref a1, .ref a2, .ref a3, .ref a4, .ref a5, .ref a6, .ref a7, .ref a8, .ref a9, .ref a10])), (a3, .inl (T 0, 10, .inl af3))] H locs → lv_has ls 3 [(2, .int (nI k4)), (1, .int x1), (0, .ref a0)] → W p l e (rmD 0 0 0) s m args below meth c H locs 0 0 (MQ below (gQ D A (q_s_heatTogether_f T fa a0 an am al ao au a1 a2 a3 a4 a5 a6 a7 a8 a9 a10 af3)) args s 0 0 A) (F0 m 4 ls []) := by
    intro fu_4
    induction fu_4 with
    | zero => intro k4 x1 hk4 hx1 hmu; exact absurd hmu (Nat.not_lt_zero _)
    | succ fu_4 ih_4 =>
      intro k4 x1 hk4 hx1 hmu_4 H locs ls V hl
      refine lv_iload_n hx hb dX5_heatTogether_4 rfl (lv_at hl 0 rfl) ?_
      refine lv_aload_n hx hb dX5_heatTogether_5 rfl (lv_at hl 2 rfl) ?_
      refine g_get hC V (ci := 5) uwX5 0 rfl rfl 0 (by decide) w_33 rfl rfl dX5_heatTogether_6 ?_
      refine lv_icmp_ge (tgt := 27) hx hb dX5_heatTogether_9 (by decide) (fun c_2 => ?_) (fun c_2 => ?_)
      · skip
        have c_2 := b_le (by omega) (by omega) c_2
        refine lv_iload_n hx hb dX5_heatTogether_27 rfl (lv_at hl 1 rfl) ?_
        exact g_iret (Qr := (q_s_heatTogether_f T fa a0 an am al ao au a1 a2 a3 a4 a5 a6 a7 a8 a9 a10 af3)) hC V ⟨(Nat.le_of_ble_eq_true rfl), (Nat.le_of_ble_eq_true rfl)⟩ ⟨x1, rfl, rfl, (by rw [hx1]; congr 1; omega)⟩ dX5_heatTogether_28
      · skip
        have c_2 := b_nle (by omega) (by omega) c_2
        refine lv_iload_n hx hb dX5_heatTogether_12 rfl (lv_at hl 1 rfl) ?_
        refine lv_aload_n hx hb dX5_heatTogether_13 rfl (lv_at hl 2 rfl) ?_
        refine g_get hC V (ci := 5) uwX5 0 rfl rfl 7 (by decide) w_62 rfl rfl dX5_heatTogether_14 ?_
        refine lv_iload_n hx hb dX5_heatTogether_17 rfl (lv_at hl 0 rfl) ?_
        refine g_iald hC V 1 rfl (vp_in_nI (by omega) (by omega)) (v := (af3 k4)) (congrArg _ (nI_clamp (by omega))) dX5_heatTogether_18 ?_
        refine lv_iadd hx hb dX5_heatTogether_19 ?_
        refine lv_istore_n (lv' := [(1, .int (x1 + (af3 k4))), (2, .int (nI k4)), (0, .ref a0)]) hx hb dX5_heatTogether_20 rfl hl (by decide) rfl (fun ls hl => ?_)
        refine lv_iinc (v := (nI (k4 + 1))) (lv' := [(2, .int (nI (k4 + 1))), (1, .int (x1 + (af3 k4))), (0, .ref a0)]) hx hb dX5_heatTogether_21 hl (k := 1) rfl (nI_1 _) (by decide) rfl (fun ls hl => ?_)
        refine lv_goto (tgt := 4) hx hb dX5_heatTogether_24 (by decide) ?_
        exact ih_4 (k4 + 1) (x1 + (af3 k4)) (by omega) (su_s hx1 (h_s3 _ (by omega))) (by omega) _ _ _ V (lv_sub hl [0, 1, 2] rfl)
  exact L_1 _ 0 (nI 0) (by omega) rfl (Nat.lt_succ_self _) _ _ _ V (lv_sub hl [0, 1, 2] rfl)

def q_s_workable_f (T : Nat → ClassId) (fa : Nat → Int32) (a0 : Nat) (an : Nat) (am : Int32) (al : Int32) (ao : Int32) (au : Int32) (a1 : Nat) (a2 : Nat) (a3 : Nat) (a4 : Nat) (a5 : Nat) (a6 : Nat) (a7 : Nat) (a8 : Nat) (a9 : Nat) (a10 : Nat) (af3 : Nat → Int32) (af4 : Nat → Int32) (af5 : Nat → Int32) : Option Value → va_W → Prop := fun rr ww => (∃ (z : Int32), rr = some (.int z) ∧ ww = [(a0, .inr (5, [.int (nI an), .int am, .int al, .int ao, .int au, .ref a1, .ref a2, .ref a3, .ref a4, .ref a5, .ref a6, .ref a7, .ref a8, .ref a9, .ref a10])), (a3, .inl (T 0, 10, .inl af3)), (a4, .inl (T 0, 10, .inl af4)), (a5, .inl (T 0, 10, .inl af5))] ∧ z = wkO fa an)
set_option maxHeartbeats 4000000 in
set_option maxRecDepth 100000 in
theorem s_workable_f (l : Launch) (D : va_G) (T : Nat → ClassId) (fa : Nat → Int32) (a0 : Nat) (an : Nat) (am : Int32) (al : Int32) (ao : Int32) (au : Int32) (a1 : Nat) (a2 : Nat) (a3 : Nat) (a4 : Nat) (a5 : Nat) (a6 : Nat) (a7 : Nat) (a8 : Nat) (a9 : Nat) (a10 : Nat) (af3 : Nat → Int32) (af4 : Nat → Int32) (af5 : Nat → Int32) (h_n : an ≤ 10) (h_s3 : ∀ i, i < an → af3 i = fa (24 + i)) (h_s4 : ∀ i, i < an → af4 i = fa (34 + i)) (h_s5 : ∀ i, i < an → af5 i = fa (44 + i)) : Ct l yX5_workable cX5_workable 3 (some .int) 1 0 0 D T [.ref a0] [(a0, .inr (5, [.int (nI an), .int am, .int al, .int ao, .int au, .ref a1, .ref a2, .ref a3, .ref a4, .ref a5, .ref a6, .ref a7, .ref a8, .ref a9, .ref a10])), (a3, .inl (T 0, 10, .inl af3)), (a4, .inl (T 0, 10, .inl af4)), (a5, .inl (T 0, 10, .inl af5))] (q_s_workable_f T fa a0 an am al ao au a1 a2 a3 a4 a5 a6 a7 a8 a9 a10 af3 af4 af5) := by
  refine Ct.of (cc := cX5_workable) (maxL := 3) (ret := (some .int)) (by decide) (Nat.le_of_ble_eq_true rfl) ?_
  intro p e s m args below meth c A ls hC hnm V hl
  obtain ⟨hx, hb, hr, hml, hown, hts, hlocks⟩ := id hC
  generalize hH : s.heap = H at V ⊢
  clear hH
  have hl : lv_has ls 3 [(0, .ref a0)] := hl
  generalize hlo : ([] : List Loc) = locs at V ⊢
  clear hlo
  refine lv_iconst (v := (nI 0)) hx hb dX5_workable_0 (by decide +kernel) ?_
  refine lv_istore_n (lv' := [(1, .int (nI 0)), (0, .ref a0)]) hx hb dX5_workable_1 rfl hl (by decide) rfl (fun ls hl => ?_)
  refine lv_iconst (v := (nI 0)) hx hb dX5_workable_2 (by decide +kernel) ?_
  refine lv_istore_n (lv' := [(2, .int (nI 0)), (1, .int (nI 0)), (0, .ref a0)]) hx hb dX5_workable_3 rfl hl (by decide) rfl (fun ls hl => ?_)
  have L_1 : ∀ (fu : Nat) (k4 : Nat) (x1 : Int32), k4 ≤ an → x1 = wkO fa k4 → an - k4 < fu → ∀ (H : Heap) (locs : List Loc) (ls : Array Slot), gW D T A s [(a0, .inr (5, [.int (nI an), .int am, .int al, .int ao, .int au, .ref a1, .ref a2, .ref a3, .ref a4, .ref a5, .ref a6, .ref a7, .ref a8, .ref a9, .ref a10])), (a3, .inl (T 0, 10, .inl af3)), (a4, .inl (T 0, 10, .inl af4)), (a5, .inl (T 0, 10, .inl af5))] H locs → lv_has ls 3 [(2, .int (nI k4)), (1, .int x1), (0, .ref a0)] → W p l e (rmD 1 0 0) s m args below meth c H locs 0 0 (MQ below (gQ D A (q_s_workable_f T fa a0 an am al ao au a1 a2 a3 a4 a5 a6 a7 a8 a9 a10 af3 af4 af5)) args s 0 0 A) (F0 m 4 ls []) := by
    intro fu_4
    induction fu_4 with
    | zero => intro k4 x1 hk4 hx1 hmu; exact absurd hmu (Nat.not_lt_zero _)
    | succ fu_4 ih_4 =>
      intro k4 x1 hk4 hx1 hmu_4 H locs ls V hl
      refine lv_iload_n hx hb dX5_workable_4 rfl (lv_at hl 0 rfl) ?_
      refine lv_aload_n hx hb dX5_workable_5 rfl (lv_at hl 2 rfl) ?_
      refine g_get hC V (ci := 5) uwX5 0 rfl rfl 0 (by decide) w_33 rfl rfl dX5_workable_6 ?_
      refine lv_icmp_ge (tgt := 42) hx hb dX5_workable_9 (by decide) (fun c_2 => ?_) (fun c_2 => ?_)
      · skip
        have c_2 := b_le (by omega) (by omega) c_2
        refine lv_iload_n hx hb dX5_workable_42 rfl (lv_at hl 1 rfl) ?_
        exact g_iret (Qr := (q_s_workable_f T fa a0 an am al ao au a1 a2 a3 a4 a5 a6 a7 a8 a9 a10 af3 af4 af5)) hC V ⟨(Nat.le_of_ble_eq_true rfl), (Nat.le_of_ble_eq_true rfl)⟩ ⟨x1, rfl, rfl, (by rw [hx1]; congr 1; omega)⟩ dX5_workable_43
      · skip
        have c_2 := b_nle (by omega) (by omega) c_2
        refine lv_iload_n hx hb dX5_workable_12 rfl (lv_at hl 1 rfl) ?_
        refine lv_aload_n hx hb dX5_workable_13 rfl (lv_at hl 2 rfl) ?_
        refine lv_iload_n hx hb dX5_workable_14 rfl (lv_at hl 0 rfl) ?_
        refine lv_aload_n hx hb dX5_workable_15 rfl (lv_at hl 2 rfl) ?_
        refine g_get hC V (ci := 5) uwX5 0 rfl rfl 7 (by decide) w_62 rfl rfl dX5_workable_16 ?_
        refine lv_iload_n hx hb dX5_workable_19 rfl (lv_at hl 0 rfl) ?_
        refine g_iald hC V 1 rfl (vp_in_nI (by omega) (by omega)) (v := (af3 k4)) (congrArg _ (nI_clamp (by omega))) dX5_workable_20 ?_
        refine g_callVU (nA := 2) hC V hl.1 (s_isWorkableAt l D T a0 k4 (af3 k4) an am al ao au a1 a2 a3 a4 a5 a6 a7 a8 a9 a10 af4 af5 (by first | assumption | omega)) w_478 w_479 w_480 w_3 w_481 (by decide +kernel) rfl ⟨(Nat.le_of_ble_eq_true rfl), (Nat.le_of_ble_eq_true rfl)⟩ 0 (ci := 5) rfl rfl [0, 2, 3] rfl rfl (Nat.le_of_ble_eq_true rfl) dX5_workable_21 ⟨(Nat.le_of_ble_eq_true rfl), (Nat.le_of_ble_eq_true rfl)⟩ rfl (fun r w1 H locs hQ V => ?_)
        rcases hQ with ⟨rfl, rfl, f_3, f_4⟩ | ⟨rfl, rfl, f_5⟩
        · have V : gW D T A s [(a0, .inr (5, [.int (nI an), .int am, .int al, .int ao, .int au, .ref a1, .ref a2, .ref a3, .ref a4, .ref a5, .ref a6, .ref a7, .ref a8, .ref a9, .ref a10])), (a3, .inl (T 0, 10, .inl af3)), (a4, .inl (T 0, 10, .inl af4)), (a5, .inl (T 0, 10, .inl af5))] H locs := V _ [0, 1, 0] rfl rfl rfl (by decide +kernel) rfl
          show W p l e _ s m args below meth c H locs _ _ _ (F0 m 24 ls [.int (nI 1), .int x1])
          refine lv_if_eq (tgt := 33) hx hb dX5_workable_24 (by decide) (fun c => absurd (show (nI 1) = 0 from c) (by decide +kernel)) (fun _ => ?_)
          refine lv_iconst (v := (nI 1)) hx hb dX5_workable_27 (by decide +kernel) ?_
          refine lv_iload_n hx hb dX5_workable_28 rfl (lv_at hl 0 rfl) ?_
          refine lv_ishl hx hb dX5_workable_29 ?_
          refine lv_goto (tgt := 34) hx hb dX5_workable_30 (by decide) ?_
          refine lv_ior hx hb dX5_workable_34 ?_
          refine lv_istore_n (lv' := [(1, .int (x1 ||| ((nI 1) <<< ((nI k4) &&& 31)))), (2, .int (nI k4)), (0, .ref a0)]) hx hb dX5_workable_35 rfl hl (by decide) rfl (fun ls hl => ?_)
          refine lv_iinc (v := (nI (k4 + 1))) (lv' := [(2, .int (nI (k4 + 1))), (1, .int (x1 ||| ((nI 1) <<< ((nI k4) &&& 31)))), (0, .ref a0)]) hx hb dX5_workable_36 hl (k := 1) rfl (nI_1 _) (by decide) rfl (fun ls hl => ?_)
          refine lv_goto (tgt := 4) hx hb dX5_workable_39 (by decide) ?_
          exact ih_4 (k4 + 1) (x1 ||| ((nI 1) <<< ((nI k4) &&& 31))) (by omega) (wk_y hx1 (show warmP fa k4 from (by unfold warmP; rw [← h_s3 _ (by omega), ← h_s4 _ (by omega), ← h_s5 _ (by omega)]; exact ⟨f_3, f_4⟩))) (by omega) _ _ _ V (lv_sub hl [0, 1, 2] rfl)
        · have V : gW D T A s [(a0, .inr (5, [.int (nI an), .int am, .int al, .int ao, .int au, .ref a1, .ref a2, .ref a3, .ref a4, .ref a5, .ref a6, .ref a7, .ref a8, .ref a9, .ref a10])), (a3, .inl (T 0, 10, .inl af3)), (a4, .inl (T 0, 10, .inl af4)), (a5, .inl (T 0, 10, .inl af5))] H locs := V _ [0, 1, 0] rfl rfl rfl (by decide +kernel) rfl
          show W p l e _ s m args below meth c H locs _ _ _ (F0 m 24 ls [.int (nI 0), .int x1])
          refine lv_if_eq (tgt := 33) hx hb dX5_workable_24 (by decide) (fun _ => ?_) (fun c => absurd (show (nI 0) = 0 by decide +kernel) c)
          refine lv_iconst (v := (nI 0)) hx hb dX5_workable_33 (by decide +kernel) ?_
          refine lv_ior hx hb dX5_workable_34 ?_
          refine lv_istore_n (lv' := [(1, .int (x1 ||| (nI 0))), (2, .int (nI k4)), (0, .ref a0)]) hx hb dX5_workable_35 rfl hl (by decide) rfl (fun ls hl => ?_)
          refine lv_iinc (v := (nI (k4 + 1))) (lv' := [(2, .int (nI (k4 + 1))), (1, .int (x1 ||| (nI 0))), (0, .ref a0)]) hx hb dX5_workable_36 hl (k := 1) rfl (nI_1 _) (by decide) rfl (fun ls hl => ?_)
          refine lv_goto (tgt := 4) hx hb dX5_workable_39 (by decide) ?_
          exact ih_4 (k4 + 1) (x1 ||| (nI 0)) (by omega) (wk_n hx1 (fun (q : warmP fa k4) => by have r := f_5; rw [h_s3 _ (by omega), h_s4 _ (by omega), h_s5 _ (by omega)] at r; exact r.elim q.1 q.2)) (by omega) _ _ _ V (lv_sub hl [0, 1, 2] rfl)
  exact L_1 _ 0 (nI 0) (by omega) rfl (Nat.lt_succ_self _) _ _ _ V (lv_sub hl [0, 1, 2] rfl)

def q_x_count_f (T : Nat → ClassId) (nf1 : Nat → Int32) (nf2 : Nat → Int32) (nf9 : Nat → Int32) (fa : Nat → Int32) (o : Nat) (wh : Int32) (n0 : Nat) (s0 : Nat) (im : Nat) (iz : Nat) (rw : Nat) (t0 : Nat) (u0 : Nat) (h0 : Nat) (y0 : Nat) (sv : Value) (tf : Nat) (tu : Int32) (tl : Int32) (t1 : Nat) (te : Int32) (tk : Int32) (tr : Int32) (tb : Int32) (nn : Nat) (nm : Int32) (nl : Int32) (no : Int32) (nu : Int32) (n1 : Nat) (n2 : Nat) (n3 : Nat) (n4 : Nat) (n5 : Nat) (n6 : Nat) (n7 : Nat) (n8 : Nat) (n9 : Nat) (n10 : Nat) (nf3 : Nat → Int32) (nf4 : Nat → Int32) (nf5 : Nat → Int32) (nf6 : Nat → Int32) (nf7 : Nat → Int32) : Option Value → va_W → Prop := fun rr ww => (∃ (z : Int32), rr = some (.int z) ∧ ww = [(o, .inr (7, [.ref n0, .ref s0, .ref im, .ref iz, .ref rw, .ref t0, .ref u0, .ref h0, .ref y0, sv])), (t0, .inr (2, [.int (nI tf), .int tu, .int tl, .ref t1, .int te, .int tk, .int tr, .int tb])), (n0, .inr (5, [.int (nI nn), .int nm, .int nl, .int no, .int nu, .ref n1, .ref n2, .ref n3, .ref n4, .ref n5, .ref n6, .ref n7, .ref n8, .ref n9, .ref n10])), (n3, .inl (T 0, 10, .inl nf3)), (n4, .inl (T 0, 10, .inl nf4)), (n5, .inl (T 0, 10, .inl nf5)), (n6, .inl (T 0, 10, .inl nf6)), (n7, .inl (T 0, 10, .inl nf7))] ∧ z = coA nn fa tf wh)
set_option maxHeartbeats 4000000 in
set_option maxRecDepth 100000 in
theorem x_count_f (l : Launch) (D : va_G) (T : Nat → ClassId) (nf1 : Nat → Int32) (nf2 : Nat → Int32) (nf9 : Nat → Int32) (fa : Nat → Int32) (o : Nat) (wh : Int32) (n0 : Nat) (s0 : Nat) (im : Nat) (iz : Nat) (rw : Nat) (t0 : Nat) (u0 : Nat) (h0 : Nat) (y0 : Nat) (sv : Value) (tf : Nat) (tu : Int32) (tl : Int32) (t1 : Nat) (te : Int32) (tk : Int32) (tr : Int32) (tb : Int32) (nn : Nat) (nm : Int32) (nl : Int32) (no : Int32) (nu : Int32) (n1 : Nat) (n2 : Nat) (n3 : Nat) (n4 : Nat) (n5 : Nat) (n6 : Nat) (n7 : Nat) (n8 : Nat) (n9 : Nat) (n10 : Nat) (nf3 : Nat → Int32) (nf4 : Nat → Int32) (nf5 : Nat → Int32) (nf6 : Nat → Int32) (nf7 : Nat → Int32) (h_n : nn ≤ 10) (h_sr : SR nn nm nl no nf1 nf2 nf3 nf4 nf5 nf6 nf7 nf9 fa) (h_u : nu = sbF fa nn) : Ct l yX7_count cX7_count 2 (some .int) 2 0 0 D T [.ref o, .int wh] [(o, .inr (7, [.ref n0, .ref s0, .ref im, .ref iz, .ref rw, .ref t0, .ref u0, .ref h0, .ref y0, sv])), (t0, .inr (2, [.int (nI tf), .int tu, .int tl, .ref t1, .int te, .int tk, .int tr, .int tb])), (n0, .inr (5, [.int (nI nn), .int nm, .int nl, .int no, .int nu, .ref n1, .ref n2, .ref n3, .ref n4, .ref n5, .ref n6, .ref n7, .ref n8, .ref n9, .ref n10])), (n3, .inl (T 0, 10, .inl nf3)), (n4, .inl (T 0, 10, .inl nf4)), (n5, .inl (T 0, 10, .inl nf5)), (n6, .inl (T 0, 10, .inl nf6)), (n7, .inl (T 0, 10, .inl nf7))] (q_x_count_f T nf1 nf2 nf9 fa o wh n0 s0 im iz rw t0 u0 h0 y0 sv tf tu tl t1 te tk tr tb nn nm nl no nu n1 n2 n3 n4 n5 n6 n7 n8 n9 n10 nf3 nf4 nf5 nf6 nf7) := by
  refine Ct.of (cc := cX7_count) (maxL := 2) (ret := (some .int)) (by decide) (Nat.le_of_ble_eq_true rfl) ?_
  intro p e s m args below meth c A ls hC hnm V hl
  obtain ⟨hx, hb, hr, hml, hown, hts, hlocks⟩ := id hC
  generalize hH : s.heap = H at V ⊢
  clear hH
  have hl : lv_has ls 2 [(0, .ref o), (1, .int wh)] := hl
  generalize hlo : ([] : List Loc) = locs at V ⊢
  clear hlo
  refine lv_iload_n hx hb dX7_count_0 rfl (lv_at hl 1 rfl) ?_
  by_cases c_10 : wh = (nI 0)
  · skip
    refine lv_tableIn (tgt := 52) (off := 51) hx hb dX7_count_1 (by first | decide +kernel | (rw [c_10]; decide +kernel)) (by first | decide +kernel | (rw [c_10]; decide +kernel)) (by first | decide +kernel | (rw [c_10]; decide +kernel)) (by decide) ?_
    refine lv_aload_n hx hb dX7_count_52 rfl (lv_at hl 0 rfl) ?_
    refine g_get hC V (ci := 7) uwX7 0 rfl rfl 0 (by decide) w_249 rfl rfl dX7_count_53 ?_
    refine g_get hC V (ci := 5) uwX5 2 rfl rfl 0 (by decide) w_38 rfl rfl dX7_count_56 ?_
    exact g_iret (Qr := (q_x_count_f T nf1 nf2 nf9 fa o wh n0 s0 im iz rw t0 u0 h0 y0 sv tf tu tl t1 te tk tr tb nn nm nl no nu n1 n2 n3 n4 n5 n6 n7 n8 n9 n10 nf3 nf4 nf5 nf6 nf7)) hC V ⟨(Nat.le_of_ble_eq_true rfl), (Nat.le_of_ble_eq_true rfl)⟩ ⟨(nI nn), rfl, rfl, (cou_0 (by assumption) rfl)⟩ dX7_count_59
  by_cases c_11 : wh = (nI 1)
  · skip
    refine lv_tableIn (tgt := 60) (off := 59) hx hb dX7_count_1 (by first | decide +kernel | (rw [c_11]; decide +kernel)) (by first | decide +kernel | (rw [c_11]; decide +kernel)) (by first | decide +kernel | (rw [c_11]; decide +kernel)) (by decide) ?_
    refine lv_aload_n hx hb dX7_count_60 rfl (lv_at hl 0 rfl) ?_
    refine g_get hC V (ci := 7) uwX7 0 rfl rfl 0 (by decide) w_249 rfl rfl dX7_count_61 ?_
    refine g_get hC V (ci := 5) uwX5 2 rfl rfl 1 (by decide) w_41 rfl rfl dX7_count_64 ?_
    exact g_iret (Qr := (q_x_count_f T nf1 nf2 nf9 fa o wh n0 s0 im iz rw t0 u0 h0 y0 sv tf tu tl t1 te tk tr tb nn nm nl no nu n1 n2 n3 n4 n5 n6 n7 n8 n9 n10 nf3 nf4 nf5 nf6 nf7)) hC V ⟨(Nat.le_of_ble_eq_true rfl), (Nat.le_of_ble_eq_true rfl)⟩ ⟨nm, rfl, rfl, (cou_1 (by assumption) h_sr.2.1.symm)⟩ dX7_count_67
  by_cases c_12 : wh = (nI 2)
  · skip
    refine lv_tableIn (tgt := 68) (off := 67) hx hb dX7_count_1 (by first | decide +kernel | (rw [c_12]; decide +kernel)) (by first | decide +kernel | (rw [c_12]; decide +kernel)) (by first | decide +kernel | (rw [c_12]; decide +kernel)) (by decide) ?_
    refine lv_aload_n hx hb dX7_count_68 rfl (lv_at hl 0 rfl) ?_
    refine g_get hC V (ci := 7) uwX7 0 rfl rfl 0 (by decide) w_249 rfl rfl dX7_count_69 ?_
    refine g_callVU (nA := 0) hC V hl.1 (s_piecesDone_f l D T fa n0 nn nm nl no nu n1 n2 n3 n4 n5 n6 n7 n8 n9 n10 nf6 nf7 (by first | assumption | omega) (fun i hi => (h_sr.2.2.2.2 i hi).2.2.2.2.2.1) (fun i hi => (h_sr.2.2.2.2 i hi).2.2.2.2.2.2.1)) w_516 w_517 w_518 w_3 w_519 (by decide +kernel) rfl ⟨(Nat.le_of_ble_eq_true rfl), (Nat.le_of_ble_eq_true rfl)⟩ 2 (ci := 5) rfl rfl [2, 6, 7] rfl rfl (Nat.le_of_ble_eq_true rfl) dX7_count_72 ⟨(Nat.le_of_ble_eq_true rfl), (Nat.le_of_ble_eq_true rfl)⟩ rfl (fun r w1 H locs hQ V => ?_)
    obtain ⟨z_2, rfl, rfl, f_3⟩ := hQ
    have V : gW D T A s [(o, .inr (7, [.ref n0, .ref s0, .ref im, .ref iz, .ref rw, .ref t0, .ref u0, .ref h0, .ref y0, sv])), (t0, .inr (2, [.int (nI tf), .int tu, .int tl, .ref t1, .int te, .int tk, .int tr, .int tb])), (n0, .inr (5, [.int (nI nn), .int nm, .int nl, .int no, .int nu, .ref n1, .ref n2, .ref n3, .ref n4, .ref n5, .ref n6, .ref n7, .ref n8, .ref n9, .ref n10])), (n3, .inl (T 0, 10, .inl nf3)), (n4, .inl (T 0, 10, .inl nf4)), (n5, .inl (T 0, 10, .inl nf5)), (n6, .inl (T 0, 10, .inl nf6)), (n7, .inl (T 0, 10, .inl nf7))] H locs := V _ [2, 3, 0] rfl rfl rfl (by decide +kernel) rfl
    show W p l e _ s m args below meth c H locs _ _ _ (F0 m 75 ls [.int z_2])
    exact g_iret (Qr := (q_x_count_f T nf1 nf2 nf9 fa o wh n0 s0 im iz rw t0 u0 h0 y0 sv tf tu tl t1 te tk tr tb nn nm nl no nu n1 n2 n3 n4 n5 n6 n7 n8 n9 n10 nf3 nf4 nf5 nf6 nf7)) hC V ⟨(Nat.le_of_ble_eq_true rfl), (Nat.le_of_ble_eq_true rfl)⟩ ⟨z_2, rfl, rfl, (cou_2 (by assumption) f_3)⟩ dX7_count_75
  by_cases c_13 : wh = (nI 3)
  · skip
    refine lv_tableIn (tgt := 76) (off := 75) hx hb dX7_count_1 (by first | decide +kernel | (rw [c_13]; decide +kernel)) (by first | decide +kernel | (rw [c_13]; decide +kernel)) (by first | decide +kernel | (rw [c_13]; decide +kernel)) (by decide) ?_
    refine lv_aload_n hx hb dX7_count_76 rfl (lv_at hl 0 rfl) ?_
    refine g_get hC V (ci := 7) uwX7 0 rfl rfl 0 (by decide) w_249 rfl rfl dX7_count_77 ?_
    refine g_get hC V (ci := 5) uwX5 2 rfl rfl 4 (by decide) w_50 rfl rfl dX7_count_80 ?_
    exact g_iret (Qr := (q_x_count_f T nf1 nf2 nf9 fa o wh n0 s0 im iz rw t0 u0 h0 y0 sv tf tu tl t1 te tk tr tb nn nm nl no nu n1 n2 n3 n4 n5 n6 n7 n8 n9 n10 nf3 nf4 nf5 nf6 nf7)) hC V ⟨(Nat.le_of_ble_eq_true rfl), (Nat.le_of_ble_eq_true rfl)⟩ ⟨nu, rfl, rfl, (cou_3 (by assumption) h_u)⟩ dX7_count_83
  by_cases c_14 : wh = (nI 4)
  · skip
    refine lv_tableIn (tgt := 84) (off := 83) hx hb dX7_count_1 (by first | decide +kernel | (rw [c_14]; decide +kernel)) (by first | decide +kernel | (rw [c_14]; decide +kernel)) (by first | decide +kernel | (rw [c_14]; decide +kernel)) (by decide) ?_
    refine lv_aload_n hx hb dX7_count_84 rfl (lv_at hl 0 rfl) ?_
    refine g_get hC V (ci := 7) uwX7 0 rfl rfl 0 (by decide) w_249 rfl rfl dX7_count_85 ?_
    refine g_callVU (nA := 0) hC V hl.1 (s_workable_f l D T fa n0 nn nm nl no nu n1 n2 n3 n4 n5 n6 n7 n8 n9 n10 nf3 nf4 nf5 (by first | assumption | omega) (fun i hi => (h_sr.2.2.2.2 i hi).2.2.1) (fun i hi => (h_sr.2.2.2.2 i hi).2.2.2.1) (fun i hi => (h_sr.2.2.2.2 i hi).2.2.2.2.1)) w_898 w_899 w_900 w_3 w_901 (by decide +kernel) rfl ⟨(Nat.le_of_ble_eq_true rfl), (Nat.le_of_ble_eq_true rfl)⟩ 2 (ci := 5) rfl rfl [2, 3, 4, 5] rfl rfl (Nat.le_of_ble_eq_true rfl) dX7_count_88 ⟨(Nat.le_of_ble_eq_true rfl), (Nat.le_of_ble_eq_true rfl)⟩ rfl (fun r w1 H locs hQ V => ?_)
    obtain ⟨z_4, rfl, rfl, f_5⟩ := hQ
    have V : gW D T A s [(o, .inr (7, [.ref n0, .ref s0, .ref im, .ref iz, .ref rw, .ref t0, .ref u0, .ref h0, .ref y0, sv])), (t0, .inr (2, [.int (nI tf), .int tu, .int tl, .ref t1, .int te, .int tk, .int tr, .int tb])), (n0, .inr (5, [.int (nI nn), .int nm, .int nl, .int no, .int nu, .ref n1, .ref n2, .ref n3, .ref n4, .ref n5, .ref n6, .ref n7, .ref n8, .ref n9, .ref n10])), (n3, .inl (T 0, 10, .inl nf3)), (n4, .inl (T 0, 10, .inl nf4)), (n5, .inl (T 0, 10, .inl nf5)), (n6, .inl (T 0, 10, .inl nf6)), (n7, .inl (T 0, 10, .inl nf7))] H locs := V _ [2, 0, 0, 0] rfl rfl rfl (by decide +kernel) rfl
    show W p l e _ s m args below meth c H locs _ _ _ (F0 m 91 ls [.int z_4])
    exact g_iret (Qr := (q_x_count_f T nf1 nf2 nf9 fa o wh n0 s0 im iz rw t0 u0 h0 y0 sv tf tu tl t1 te tk tr tb nn nm nl no nu n1 n2 n3 n4 n5 n6 n7 n8 n9 n10 nf3 nf4 nf5 nf6 nf7)) hC V ⟨(Nat.le_of_ble_eq_true rfl), (Nat.le_of_ble_eq_true rfl)⟩ ⟨z_4, rfl, rfl, (cou_4 (by assumption) f_5)⟩ dX7_count_91
  by_cases c_15 : wh = (nI 5)
  · skip
    refine lv_tableIn (tgt := 92) (off := 91) hx hb dX7_count_1 (by first | decide +kernel | (rw [c_15]; decide +kernel)) (by first | decide +kernel | (rw [c_15]; decide +kernel)) (by first | decide +kernel | (rw [c_15]; decide +kernel)) (by decide) ?_
    refine lv_aload_n hx hb dX7_count_92 rfl (lv_at hl 0 rfl) ?_
    refine g_get hC V (ci := 7) uwX7 0 rfl rfl 0 (by decide) w_249 rfl rfl dX7_count_93 ?_
    refine g_callVU (nA := 0) hC V hl.1 (s_heatTogether_f l D T fa n0 nn nm nl no nu n1 n2 n3 n4 n5 n6 n7 n8 n9 n10 nf3 (by first | assumption | omega) (fun i hi => (h_sr.2.2.2.2 i hi).2.2.1)) w_902 w_903 w_904 w_3 w_905 (by decide +kernel) rfl ⟨(Nat.le_of_ble_eq_true rfl), (Nat.le_of_ble_eq_true rfl)⟩ 2 (ci := 5) rfl rfl [2, 3] rfl rfl (Nat.le_of_ble_eq_true rfl) dX7_count_96 ⟨(Nat.le_of_ble_eq_true rfl), (Nat.le_of_ble_eq_true rfl)⟩ rfl (fun r w1 H locs hQ V => ?_)
    obtain ⟨z_6, rfl, rfl, f_7⟩ := hQ
    have V : gW D T A s [(o, .inr (7, [.ref n0, .ref s0, .ref im, .ref iz, .ref rw, .ref t0, .ref u0, .ref h0, .ref y0, sv])), (t0, .inr (2, [.int (nI tf), .int tu, .int tl, .ref t1, .int te, .int tk, .int tr, .int tb])), (n0, .inr (5, [.int (nI nn), .int nm, .int nl, .int no, .int nu, .ref n1, .ref n2, .ref n3, .ref n4, .ref n5, .ref n6, .ref n7, .ref n8, .ref n9, .ref n10])), (n3, .inl (T 0, 10, .inl nf3)), (n4, .inl (T 0, 10, .inl nf4)), (n5, .inl (T 0, 10, .inl nf5)), (n6, .inl (T 0, 10, .inl nf6)), (n7, .inl (T 0, 10, .inl nf7))] H locs := V _ [2, 0] rfl rfl rfl (by decide +kernel) rfl
    show W p l e _ s m args below meth c H locs _ _ _ (F0 m 99 ls [.int z_6])
    exact g_iret (Qr := (q_x_count_f T nf1 nf2 nf9 fa o wh n0 s0 im iz rw t0 u0 h0 y0 sv tf tu tl t1 te tk tr tb nn nm nl no nu n1 n2 n3 n4 n5 n6 n7 n8 n9 n10 nf3 nf4 nf5 nf6 nf7)) hC V ⟨(Nat.le_of_ble_eq_true rfl), (Nat.le_of_ble_eq_true rfl)⟩ ⟨z_6, rfl, rfl, (cou_5 (by assumption) f_7)⟩ dX7_count_99
  by_cases c_16 : wh = (nI 6)
  · skip
    refine lv_tableIn (tgt := 100) (off := 99) hx hb dX7_count_1 (by first | decide +kernel | (rw [c_16]; decide +kernel)) (by first | decide +kernel | (rw [c_16]; decide +kernel)) (by first | decide +kernel | (rw [c_16]; decide +kernel)) (by decide) ?_
    refine lv_aload_n hx hb dX7_count_100 rfl (lv_at hl 0 rfl) ?_
    refine g_get hC V (ci := 7) uwX7 0 rfl rfl 5 (by decide) w_254 rfl rfl dX7_count_101 ?_
    refine g_get hC V (ci := 2) uwX2 1 rfl rfl 0 (by decide) w_128 rfl rfl dX7_count_104 ?_
    exact g_iret (Qr := (q_x_count_f T nf1 nf2 nf9 fa o wh n0 s0 im iz rw t0 u0 h0 y0 sv tf tu tl t1 te tk tr tb nn nm nl no nu n1 n2 n3 n4 n5 n6 n7 n8 n9 n10 nf3 nf4 nf5 nf6 nf7)) hC V ⟨(Nat.le_of_ble_eq_true rfl), (Nat.le_of_ble_eq_true rfl)⟩ ⟨(nI tf), rfl, rfl, (cou_6 (by assumption) rfl)⟩ dX7_count_107
  by_cases c_17 : wh = (nI 7)
  · skip
    refine lv_tableIn (tgt := 108) (off := 107) hx hb dX7_count_1 (by first | decide +kernel | (rw [c_17]; decide +kernel)) (by first | decide +kernel | (rw [c_17]; decide +kernel)) (by first | decide +kernel | (rw [c_17]; decide +kernel)) (by decide) ?_
    refine lv_aload_n hx hb dX7_count_108 rfl (lv_at hl 0 rfl) ?_
    refine g_get hC V (ci := 7) uwX7 0 rfl rfl 0 (by decide) w_249 rfl rfl dX7_count_109 ?_
    refine g_get hC V (ci := 5) uwX5 2 rfl rfl 2 (by decide) w_43 rfl rfl dX7_count_112 ?_
    exact g_iret (Qr := (q_x_count_f T nf1 nf2 nf9 fa o wh n0 s0 im iz rw t0 u0 h0 y0 sv tf tu tl t1 te tk tr tb nn nm nl no nu n1 n2 n3 n4 n5 n6 n7 n8 n9 n10 nf3 nf4 nf5 nf6 nf7)) hC V ⟨(Nat.le_of_ble_eq_true rfl), (Nat.le_of_ble_eq_true rfl)⟩ ⟨nl, rfl, rfl, (cou_7 (by assumption) h_sr.2.2.2.1.symm)⟩ dX7_count_115
  by_cases c_18 : wh = (nI 8)
  · skip
    refine lv_tableIn (tgt := 116) (off := 115) hx hb dX7_count_1 (by first | decide +kernel | (rw [c_18]; decide +kernel)) (by first | decide +kernel | (rw [c_18]; decide +kernel)) (by first | decide +kernel | (rw [c_18]; decide +kernel)) (by decide) ?_
    refine lv_aload_n hx hb dX7_count_116 rfl (lv_at hl 0 rfl) ?_
    refine g_get hC V (ci := 7) uwX7 0 rfl rfl 0 (by decide) w_249 rfl rfl dX7_count_117 ?_
    refine g_get hC V (ci := 5) uwX5 2 rfl rfl 3 (by decide) w_48 rfl rfl dX7_count_120 ?_
    exact g_iret (Qr := (q_x_count_f T nf1 nf2 nf9 fa o wh n0 s0 im iz rw t0 u0 h0 y0 sv tf tu tl t1 te tk tr tb nn nm nl no nu n1 n2 n3 n4 n5 n6 n7 n8 n9 n10 nf3 nf4 nf5 nf6 nf7)) hC V ⟨(Nat.le_of_ble_eq_true rfl), (Nat.le_of_ble_eq_true rfl)⟩ ⟨no, rfl, rfl, (cou_8 (by assumption) h_sr.2.2.1.symm)⟩ dX7_count_123
  refine lv_tableOut (tgt := 124) hx hb dX7_count_1 (g_out 0 8 (fun k h1 h2 => ?_)) (by decide) ?_
  · intro h
    have h3 : k = 0 ∨ k = 1 ∨ k = 2 ∨ k = 3 ∨ k = 4 ∨ k = 5 ∨ k = 6 ∨ k = 7 ∨ k = 8 := by omega
    rcases h3 with rfl | rfl | rfl | rfl | rfl | rfl | rfl | rfl | rfl
    · exact c_10 (g_out2 h (by decide +kernel))
    · exact c_11 (g_out2 h (by decide +kernel))
    · exact c_12 (g_out2 h (by decide +kernel))
    · exact c_13 (g_out2 h (by decide +kernel))
    · exact c_14 (g_out2 h (by decide +kernel))
    · exact c_15 (g_out2 h (by decide +kernel))
    · exact c_16 (g_out2 h (by decide +kernel))
    · exact c_17 (g_out2 h (by decide +kernel))
    · exact c_18 (g_out2 h (by decide +kernel))
  refine lv_iconst (v := (-1)) hx hb dX7_count_124 (by decide +kernel) ?_
  exact g_iret (Qr := (q_x_count_f T nf1 nf2 nf9 fa o wh n0 s0 im iz rw t0 u0 h0 y0 sv tf tu tl t1 te tk tr tb nn nm nl no nu n1 n2 n3 n4 n5 n6 n7 n8 n9 n10 nf3 nf4 nf5 nf6 nf7)) hC V ⟨(Nat.le_of_ble_eq_true rfl), (Nat.le_of_ble_eq_true rfl)⟩ ⟨(-1), rfl, rfl, (cou_d (by assumption) (by assumption) (by assumption) (by assumption) (by assumption) (by assumption) (by assumption) (by assumption) (by assumption))⟩ dX7_count_125

def q_m_sumOf_f (T : Nat → ClassId) (n : Nat) (o : Nat) (fr_ : Nat) (w0 : Int32) (g1 : Nat) (g2 : Nat) (g3 : Nat) (g4 : Nat) (tp : Nat) (w6 : Int32) (w7 : Int32) (w8 : Int32) (w9 : Int32) (w10 : Int32) (w11 : Int32) (w12 : Int32) (w13 : Int32) (w14 : Int32) (g15 : Nat) (w16 : Int32) (g17 : Nat) (w18 : Int32) (w19 : Int32) (g20 : Nat) (w21 : Int32) (g22 : Nat) (g23 : Nat) (g24 : Nat) (w25 : Int32) (w26 : Int32) (w27 : Int32) (g28 : Nat) (g29 : Nat) (w30 : Int32) (g31 : Nat) (g32 : Nat) (g33 : Nat) (fa : Nat → Int32) : Option Value → va_W → Prop := fun rr ww => (∃ (z : Int32), rr = some (.int z) ∧ ww = [(o, .inr (8, [.int w0, .ref g1, .ref g2, .ref g3, .ref g4, .int (nI tp), .int w6, .int w7, .int w8, .int w9, .int w10, .int w11, .int w12, .int w13, .int w14, .ref g15, .int w16, .ref g17, .int w18, .int w19, .ref g20, .int w21, .ref g22, .ref g23, .ref g24, .int w25, .int w26, .int w27, .ref g28, .ref g29, .int w30, .ref g31, .ref g32, .ref g33])), (g1, .inl (T 0, 282, .inl fa))] ∧ z = suF fa fr_ n)
set_option maxHeartbeats 4000000 in
set_option maxRecDepth 100000 in
theorem m_sumOf_f (l : Launch) (D : va_G) (T : Nat → ClassId) (n : Nat) (o : Nat) (fr_ : Nat) (w0 : Int32) (g1 : Nat) (g2 : Nat) (g3 : Nat) (g4 : Nat) (tp : Nat) (w6 : Int32) (w7 : Int32) (w8 : Int32) (w9 : Int32) (w10 : Int32) (w11 : Int32) (w12 : Int32) (w13 : Int32) (w14 : Int32) (g15 : Nat) (w16 : Int32) (g17 : Nat) (w18 : Int32) (w19 : Int32) (g20 : Nat) (w21 : Int32) (g22 : Nat) (g23 : Nat) (g24 : Nat) (w25 : Int32) (w26 : Int32) (w27 : Int32) (g28 : Nat) (g29 : Nat) (w30 : Int32) (g31 : Nat) (g32 : Nat) (g33 : Nat) (fa : Nat → Int32) (h_a : MI n fa) (h_fr : fr_ ≤ 74) : Ct l yX8_sumOf cX8_sumOf 4 (some .int) 0 0 0 D T [.ref o, .int (nI fr_)] [(o, .inr (8, [.int w0, .ref g1, .ref g2, .ref g3, .ref g4, .int (nI tp), .int w6, .int w7, .int w8, .int w9, .int w10, .int w11, .int w12, .int w13, .int w14, .ref g15, .int w16, .ref g17, .int w18, .int w19, .ref g20, .int w21, .ref g22, .ref g23, .ref g24, .int w25, .int w26, .int w27, .ref g28, .ref g29, .int w30, .ref g31, .ref g32, .ref g33])), (g1, .inl (T 0, 282, .inl fa))] (q_m_sumOf_f T n o fr_ w0 g1 g2 g3 g4 tp w6 w7 w8 w9 w10 w11 w12 w13 w14 g15 w16 g17 w18 w19 g20 w21 g22 g23 g24 w25 w26 w27 g28 g29 w30 g31 g32 g33 fa) := by
  refine Ct.of (cc := cX8_sumOf) (maxL := 4) (ret := (some .int)) (by decide) (Nat.le_of_ble_eq_true rfl) ?_
  intro p e s m args below meth c A ls hC hnm V hl
  obtain ⟨hx, hb, hr, hml, hown, hts, hlocks⟩ := id hC
  generalize hH : s.heap = H at V ⊢
  clear hH
  have hl : lv_has ls 4 [(0, .ref o), (1, .int (nI fr_))] := hl
  generalize hlo : ([] : List Loc) = locs at V ⊢
  clear hlo
  have ms0 := ms_rf h_a
  have hn10 := h_a.1
  refine lv_iconst (v := (nI 0)) hx hb dX8_sumOf_0 (by decide +kernel) ?_
  refine lv_istore_n (lv' := [(2, .int (nI 0)), (0, .ref o), (1, .int (nI fr_))]) hx hb dX8_sumOf_1 rfl hl (by decide) rfl (fun ls hl => ?_)
  refine lv_iconst (v := (nI 0)) hx hb dX8_sumOf_2 (by decide +kernel) ?_
  refine lv_istore_n (lv' := [(3, .int (nI 0)), (2, .int (nI 0)), (0, .ref o), (1, .int (nI fr_))]) hx hb dX8_sumOf_3 rfl hl (by decide) rfl (fun ls hl => ?_)
  have L_1 : ∀ (fu : Nat) (k4 : Nat) (x2 : Int32), k4 ≤ n → x2 = suF fa fr_ k4 → n - k4 < fu → ∀ (H : Heap) (locs : List Loc) (ls : Array Slot), gW D T A s [(o, .inr (8, [.int w0, .ref g1, .ref g2, .ref g3, .ref g4, .int (nI tp), .int w6, .int w7, .int w8, .int w9, .int w10, .int w11, .int w12, .int w13, .int w14, .ref g15, .int w16, .ref g17, .int w18, .int w19, .ref g20, .int w21, .ref g22, .ref g23, .ref g24, .int w25, .int w26, .int w27, .ref g28, .ref g29, .int w30, .ref g31, .ref g32, .ref g33])), (g1, .inl (T 0, 282, .inl fa))] H locs → lv_has ls 4 [(3, .int (nI k4)), (2, .int x2), (0, .ref o), (1, .int (nI fr_))] → W p l e (rmD 0 0 0) s m args below meth c H locs 0 0 (MQ below (gQ D A (q_m_sumOf_f T n o fr_ w0 g1 g2 g3 g4 tp w6 w7 w8 w9 w10 w11 w12 w13 w14 g15 w16 g17 w18 w19 g20 w21 g22 g23 g24 w25 w26 w27 g28 g29 w30 g31 g32 g33 fa)) args s 0 0 A) (F0 m 4 ls []) := by
    intro fu_4
    induction fu_4 with
    | zero => intro k4 x2 hk4 hx2 hmu; exact absurd hmu (Nat.not_lt_zero _)
    | succ fu_4 ih_4 =>
      intro k4 x2 hk4 hx2 hmu_4 H locs ls V hl
      refine lv_iload_n hx hb dX8_sumOf_4 rfl (lv_at hl 0 rfl) ?_
      refine lv_aload_n hx hb dX8_sumOf_5 rfl (lv_at hl 2 rfl) ?_
      refine g_get hC V (ci := 8) uwX8 0 rfl rfl 1 (by decide) w_913 rfl rfl dX8_sumOf_6 ?_
      refine lv_iconst (v := (nI 0)) hx hb dX8_sumOf_9 (by decide +kernel) ?_
      refine g_iald hC V 1 rfl (vp_in_nI (by decide) (by decide)) (v := (nI n)) (by rw [nI_clamp (by decide)]; first | rfl | exact h_a.2.1) dX8_sumOf_10 ?_
      refine lv_icmp_ge (tgt := 31) hx hb dX8_sumOf_11 (by decide) (fun c_2 => ?_) (fun c_2 => ?_)
      · skip
        have c_2 := b_le (by omega) (by omega) c_2
        refine lv_iload_n hx hb dX8_sumOf_31 rfl (lv_at hl 1 rfl) ?_
        exact g_iret (Qr := (q_m_sumOf_f T n o fr_ w0 g1 g2 g3 g4 tp w6 w7 w8 w9 w10 w11 w12 w13 w14 g15 w16 g17 w18 w19 g20 w21 g22 g23 g24 w25 w26 w27 g28 g29 w30 g31 g32 g33 fa)) hC V ⟨(Nat.le_of_ble_eq_true rfl), (Nat.le_of_ble_eq_true rfl)⟩ ⟨x2, rfl, rfl, (by rw [hx2]; congr 1; omega)⟩ dX8_sumOf_32
      · skip
        have c_2 := b_nle (by omega) (by omega) c_2
        refine lv_iload_n hx hb dX8_sumOf_14 rfl (lv_at hl 1 rfl) ?_
        refine lv_aload_n hx hb dX8_sumOf_15 rfl (lv_at hl 2 rfl) ?_
        refine g_get hC V (ci := 8) uwX8 0 rfl rfl 1 (by decide) w_913 rfl rfl dX8_sumOf_16 ?_
        refine lv_iload_n hx hb dX8_sumOf_19 rfl (lv_at hl 3 rfl) ?_
        refine lv_iload_n hx hb dX8_sumOf_20 rfl (lv_at hl 0 rfl) ?_
        refine lv_iadd hx hb dX8_sumOf_21 ?_
        refine g_vi (y := (nI (fr_ + k4))) (nI_add _ _) ?_
        refine g_iald hC V 1 rfl (vp_in_nI (by omega) (by omega)) (v := (fa (fr_ + k4))) (congrArg _ (nI_clamp (by omega))) dX8_sumOf_22 ?_
        refine lv_iadd hx hb dX8_sumOf_23 ?_
        refine lv_istore_n (lv' := [(2, .int (x2 + (fa (fr_ + k4)))), (3, .int (nI k4)), (0, .ref o), (1, .int (nI fr_))]) hx hb dX8_sumOf_24 rfl hl (by decide) rfl (fun ls hl => ?_)
        refine lv_iinc (v := (nI (k4 + 1))) (lv' := [(3, .int (nI (k4 + 1))), (2, .int (x2 + (fa (fr_ + k4)))), (0, .ref o), (1, .int (nI fr_))]) hx hb dX8_sumOf_25 hl (k := 1) rfl (nI_1 _) (by decide) rfl (fun ls hl => ?_)
        refine lv_goto (tgt := 4) hx hb dX8_sumOf_28 (by decide) ?_
        exact ih_4 (k4 + 1) (x2 + (fa (fr_ + k4))) (by omega) (su_s hx2 rfl) (by omega) _ _ _ V (lv_sub hl [0, 1, 2, 3] rfl)
  exact L_1 _ 0 (nI 0) (by omega) rfl (Nat.lt_succ_self _) _ _ _ V (lv_sub hl [0, 1, 2, 3] rfl)

def q_m_warmOnes_f (T : Nat → ClassId) (n : Nat) (o : Nat) (w0 : Int32) (g1 : Nat) (g2 : Nat) (g3 : Nat) (g4 : Nat) (tp : Nat) (w6 : Int32) (w7 : Int32) (w8 : Int32) (w9 : Int32) (w10 : Int32) (w11 : Int32) (w12 : Int32) (w13 : Int32) (w14 : Int32) (g15 : Nat) (w16 : Int32) (g17 : Nat) (w18 : Int32) (w19 : Int32) (g20 : Nat) (w21 : Int32) (g22 : Nat) (g23 : Nat) (g24 : Nat) (w25 : Int32) (w26 : Int32) (w27 : Int32) (g28 : Nat) (g29 : Nat) (w30 : Int32) (g31 : Nat) (g32 : Nat) (g33 : Nat) (fa : Nat → Int32) : Option Value → va_W → Prop := fun rr ww => (∃ (z : Int32), rr = some (.int z) ∧ ww = [(o, .inr (8, [.int w0, .ref g1, .ref g2, .ref g3, .ref g4, .int (nI tp), .int w6, .int w7, .int w8, .int w9, .int w10, .int w11, .int w12, .int w13, .int w14, .ref g15, .int w16, .ref g17, .int w18, .int w19, .ref g20, .int w21, .ref g22, .ref g23, .ref g24, .int w25, .int w26, .int w27, .ref g28, .ref g29, .int w30, .ref g31, .ref g32, .ref g33])), (g1, .inl (T 0, 282, .inl fa))] ∧ z = wkO fa n)
set_option maxHeartbeats 4000000 in
set_option maxRecDepth 100000 in
theorem m_warmOnes_f (l : Launch) (D : va_G) (T : Nat → ClassId) (n : Nat) (o : Nat) (w0 : Int32) (g1 : Nat) (g2 : Nat) (g3 : Nat) (g4 : Nat) (tp : Nat) (w6 : Int32) (w7 : Int32) (w8 : Int32) (w9 : Int32) (w10 : Int32) (w11 : Int32) (w12 : Int32) (w13 : Int32) (w14 : Int32) (g15 : Nat) (w16 : Int32) (g17 : Nat) (w18 : Int32) (w19 : Int32) (g20 : Nat) (w21 : Int32) (g22 : Nat) (g23 : Nat) (g24 : Nat) (w25 : Int32) (w26 : Int32) (w27 : Int32) (g28 : Nat) (g29 : Nat) (w30 : Int32) (g31 : Nat) (g32 : Nat) (g33 : Nat) (fa : Nat → Int32) (h_a : MI n fa) : Ct l yX8_warmOnes cX8_warmOnes 3 (some .int) 1 0 0 D T [.ref o] [(o, .inr (8, [.int w0, .ref g1, .ref g2, .ref g3, .ref g4, .int (nI tp), .int w6, .int w7, .int w8, .int w9, .int w10, .int w11, .int w12, .int w13, .int w14, .ref g15, .int w16, .ref g17, .int w18, .int w19, .ref g20, .int w21, .ref g22, .ref g23, .ref g24, .int w25, .int w26, .int w27, .ref g28, .ref g29, .int w30, .ref g31, .ref g32, .ref g33])), (g1, .inl (T 0, 282, .inl fa))] (q_m_warmOnes_f T n o w0 g1 g2 g3 g4 tp w6 w7 w8 w9 w10 w11 w12 w13 w14 g15 w16 g17 w18 w19 g20 w21 g22 g23 g24 w25 w26 w27 g28 g29 w30 g31 g32 g33 fa) := by
  refine Ct.of (cc := cX8_warmOnes) (maxL := 3) (ret := (some .int)) (by decide) (Nat.le_of_ble_eq_true rfl) ?_
  intro p e s m args below meth c A ls hC hnm V hl
  obtain ⟨hx, hb, hr, hml, hown, hts, hlocks⟩ := id hC
  generalize hH : s.heap = H at V ⊢
  clear hH
  have hl : lv_has ls 3 [(0, .ref o)] := hl
  generalize hlo : ([] : List Loc) = locs at V ⊢
  clear hlo
  have ms0 := ms_rf h_a
  have hn10 := h_a.1
  refine lv_iconst (v := (nI 0)) hx hb dX8_warmOnes_0 (by decide +kernel) ?_
  refine lv_istore_n (lv' := [(1, .int (nI 0)), (0, .ref o)]) hx hb dX8_warmOnes_1 rfl hl (by decide) rfl (fun ls hl => ?_)
  refine lv_iconst (v := (nI 0)) hx hb dX8_warmOnes_2 (by decide +kernel) ?_
  refine lv_istore_n (lv' := [(2, .int (nI 0)), (1, .int (nI 0)), (0, .ref o)]) hx hb dX8_warmOnes_3 rfl hl (by decide) rfl (fun ls hl => ?_)
  have L_1 : ∀ (fu : Nat) (k4 : Nat) (x1 : Int32), k4 ≤ n → x1 = wkO fa k4 → n - k4 < fu → ∀ (H : Heap) (locs : List Loc) (ls : Array Slot), gW D T A s [(o, .inr (8, [.int w0, .ref g1, .ref g2, .ref g3, .ref g4, .int (nI tp), .int w6, .int w7, .int w8, .int w9, .int w10, .int w11, .int w12, .int w13, .int w14, .ref g15, .int w16, .ref g17, .int w18, .int w19, .ref g20, .int w21, .ref g22, .ref g23, .ref g24, .int w25, .int w26, .int w27, .ref g28, .ref g29, .int w30, .ref g31, .ref g32, .ref g33])), (g1, .inl (T 0, 282, .inl fa))] H locs → lv_has ls 3 [(2, .int (nI k4)), (1, .int x1), (0, .ref o)] → W p l e (rmD 1 0 0) s m args below meth c H locs 0 0 (MQ below (gQ D A (q_m_warmOnes_f T n o w0 g1 g2 g3 g4 tp w6 w7 w8 w9 w10 w11 w12 w13 w14 g15 w16 g17 w18 w19 g20 w21 g22 g23 g24 w25 w26 w27 g28 g29 w30 g31 g32 g33 fa)) args s 0 0 A) (F0 m 4 ls []) := by
    intro fu_4
    induction fu_4 with
    | zero => intro k4 x1 hk4 hx1 hmu; exact absurd hmu (Nat.not_lt_zero _)
    | succ fu_4 ih_4 =>
      intro k4 x1 hk4 hx1 hmu_4 H locs ls V hl
      refine lv_iload_n hx hb dX8_warmOnes_4 rfl (lv_at hl 0 rfl) ?_
      refine lv_aload_n hx hb dX8_warmOnes_5 rfl (lv_at hl 2 rfl) ?_
      refine g_get hC V (ci := 8) uwX8 0 rfl rfl 1 (by decide) w_913 rfl rfl dX8_warmOnes_6 ?_
      refine lv_iconst (v := (nI 0)) hx hb dX8_warmOnes_9 (by decide +kernel) ?_
      refine g_iald hC V 1 rfl (vp_in_nI (by decide) (by decide)) (v := (nI n)) (by rw [nI_clamp (by decide)]; first | rfl | exact h_a.2.1) dX8_warmOnes_10 ?_
      refine lv_icmp_ge (tgt := 38) hx hb dX8_warmOnes_11 (by decide) (fun c_2 => ?_) (fun c_2 => ?_)
      · skip
        have c_2 := b_le (by omega) (by omega) c_2
        refine lv_iload_n hx hb dX8_warmOnes_38 rfl (lv_at hl 1 rfl) ?_
        exact g_iret (Qr := (q_m_warmOnes_f T n o w0 g1 g2 g3 g4 tp w6 w7 w8 w9 w10 w11 w12 w13 w14 g15 w16 g17 w18 w19 g20 w21 g22 g23 g24 w25 w26 w27 g28 g29 w30 g31 g32 g33 fa)) hC V ⟨(Nat.le_of_ble_eq_true rfl), (Nat.le_of_ble_eq_true rfl)⟩ ⟨x1, rfl, rfl, (by rw [hx1]; congr 1; omega)⟩ dX8_warmOnes_39
      · skip
        have c_2 := b_nle (by omega) (by omega) c_2
        refine lv_iload_n hx hb dX8_warmOnes_14 rfl (lv_at hl 1 rfl) ?_
        refine lv_aload_n hx hb dX8_warmOnes_15 rfl (lv_at hl 2 rfl) ?_
        refine lv_iload_n hx hb dX8_warmOnes_16 rfl (lv_at hl 0 rfl) ?_
        refine g_callV (wr := []) (nA := 1) hC V hl.1 (m_isWarm_f l D T o k4 w0 g1 g2 g3 g4 tp w6 w7 w8 w9 w10 w11 w12 w13 w14 g15 w16 g17 w18 w19 g20 w21 g22 g23 g24 w25 w26 w27 g28 g29 w30 g31 g32 g33 fa (by omega)) w_1136 w_1138 w_s52 w_9 w_1139 (by decide +kernel) rfl ⟨(Nat.le_of_ble_eq_true rfl), (Nat.le_of_ble_eq_true rfl)⟩ 0 (ci := 8) rfl rfl [0, 1] [] rfl rfl rfl rfl (by decide) (Nat.le_of_ble_eq_true rfl) dX8_warmOnes_17 ⟨(Nat.le_of_ble_eq_true rfl), (Nat.le_of_ble_eq_true rfl)⟩ rfl (fun r w1 H locs hQ V => ?_)
        rcases hQ with ⟨rfl, rfl, f_3⟩ | ⟨rfl, rfl, f_4⟩
        · have V : gW D T A s [(o, .inr (8, [.int w0, .ref g1, .ref g2, .ref g3, .ref g4, .int (nI tp), .int w6, .int w7, .int w8, .int w9, .int w10, .int w11, .int w12, .int w13, .int w14, .ref g15, .int w16, .ref g17, .int w18, .int w19, .ref g20, .int w21, .ref g22, .ref g23, .ref g24, .int w25, .int w26, .int w27, .ref g28, .ref g29, .int w30, .ref g31, .ref g32, .ref g33])), (g1, .inl (T 0, 282, .inl fa))] H locs := V
          show W p l e _ s m args below meth c H locs _ _ _ (F0 m 20 ls [.int (nI 1), .int x1])
          refine lv_if_eq (tgt := 29) hx hb dX8_warmOnes_20 (by decide) (fun c => absurd (show (nI 1) = 0 from c) (by decide +kernel)) (fun _ => ?_)
          refine lv_iconst (v := (nI 1)) hx hb dX8_warmOnes_23 (by decide +kernel) ?_
          refine lv_iload_n hx hb dX8_warmOnes_24 rfl (lv_at hl 0 rfl) ?_
          refine lv_ishl hx hb dX8_warmOnes_25 ?_
          refine lv_goto (tgt := 30) hx hb dX8_warmOnes_26 (by decide) ?_
          refine lv_ior hx hb dX8_warmOnes_30 ?_
          refine lv_istore_n (lv' := [(1, .int (x1 ||| ((nI 1) <<< ((nI k4) &&& 31)))), (2, .int (nI k4)), (0, .ref o)]) hx hb dX8_warmOnes_31 rfl hl (by decide) rfl (fun ls hl => ?_)
          refine lv_iinc (v := (nI (k4 + 1))) (lv' := [(2, .int (nI (k4 + 1))), (1, .int (x1 ||| ((nI 1) <<< ((nI k4) &&& 31)))), (0, .ref o)]) hx hb dX8_warmOnes_32 hl (k := 1) rfl (nI_1 _) (by decide) rfl (fun ls hl => ?_)
          refine lv_goto (tgt := 4) hx hb dX8_warmOnes_35 (by decide) ?_
          exact ih_4 (k4 + 1) (x1 ||| ((nI 1) <<< ((nI k4) &&& 31))) (by omega) (wk_y hx1 f_3) (by omega) _ _ _ V (lv_sub hl [0, 1, 2] rfl)
        · have V : gW D T A s [(o, .inr (8, [.int w0, .ref g1, .ref g2, .ref g3, .ref g4, .int (nI tp), .int w6, .int w7, .int w8, .int w9, .int w10, .int w11, .int w12, .int w13, .int w14, .ref g15, .int w16, .ref g17, .int w18, .int w19, .ref g20, .int w21, .ref g22, .ref g23, .ref g24, .int w25, .int w26, .int w27, .ref g28, .ref g29, .int w30, .ref g31, .ref g32, .ref g33])), (g1, .inl (T 0, 282, .inl fa))] H locs := V
          show W p l e _ s m args below meth c H locs _ _ _ (F0 m 20 ls [.int (nI 0), .int x1])
          refine lv_if_eq (tgt := 29) hx hb dX8_warmOnes_20 (by decide) (fun _ => ?_) (fun c => absurd (show (nI 0) = 0 by decide +kernel) c)
          refine lv_iconst (v := (nI 0)) hx hb dX8_warmOnes_29 (by decide +kernel) ?_
          refine lv_ior hx hb dX8_warmOnes_30 ?_
          refine lv_istore_n (lv' := [(1, .int (x1 ||| (nI 0))), (2, .int (nI k4)), (0, .ref o)]) hx hb dX8_warmOnes_31 rfl hl (by decide) rfl (fun ls hl => ?_)
          refine lv_iinc (v := (nI (k4 + 1))) (lv' := [(2, .int (nI (k4 + 1))), (1, .int (x1 ||| (nI 0))), (0, .ref o)]) hx hb dX8_warmOnes_32 hl (k := 1) rfl (nI_1 _) (by decide) rfl (fun ls hl => ?_)
          refine lv_goto (tgt := 4) hx hb dX8_warmOnes_35 (by decide) ?_
          exact ih_4 (k4 + 1) (x1 ||| (nI 0)) (by omega) (wk_n hx1 f_4) (by omega) _ _ _ V (lv_sub hl [0, 1, 2] rfl)
  exact L_1 _ 0 (nI 0) (by omega) rfl (Nat.lt_succ_self _) _ _ _ V (lv_sub hl [0, 1, 2] rfl)

def q_m_count_f (T : Nat → ClassId) (n : Nat) (o : Nat) (wh : Int32) (w0 : Int32) (g1 : Nat) (g2 : Nat) (g3 : Nat) (g4 : Nat) (tp : Nat) (w6 : Int32) (w7 : Int32) (w8 : Int32) (w9 : Int32) (w10 : Int32) (w11 : Int32) (w12 : Int32) (w13 : Int32) (w14 : Int32) (g15 : Nat) (w16 : Int32) (g17 : Nat) (w18 : Int32) (w19 : Int32) (g20 : Nat) (w21 : Int32) (g22 : Nat) (g23 : Nat) (g24 : Nat) (w25 : Int32) (w26 : Int32) (w27 : Int32) (g28 : Nat) (g29 : Nat) (w30 : Int32) (g31 : Nat) (g32 : Nat) (g33 : Nat) (fa : Nat → Int32) : Option Value → va_W → Prop := fun rr ww => (∃ (z : Int32), rr = some (.int z) ∧ ww = [(o, .inr (8, [.int (nI 0), .ref g1, .ref g2, .ref g3, .ref g4, .int (nI tp), .int w6, .int w7, .int w8, .int w9, .int w10, .int w11, .int w12, .int w13, .int w14, .ref g15, .int w16, .ref g17, .int w18, .int w19, .ref g20, .int w21, .ref g22, .ref g23, .ref g24, .int w25, .int w26, .int w27, .ref g28, .ref g29, .int w30, .ref g31, .ref g32, .ref g33])), (g1, .inl (T 0, 282, .inl fa))] ∧ z = coA n fa tp wh)
set_option maxHeartbeats 4000000 in
set_option maxRecDepth 100000 in
theorem m_count_f (l : Launch) (D : va_G) (T : Nat → ClassId) (n : Nat) (o : Nat) (wh : Int32) (w0 : Int32) (g1 : Nat) (g2 : Nat) (g3 : Nat) (g4 : Nat) (tp : Nat) (w6 : Int32) (w7 : Int32) (w8 : Int32) (w9 : Int32) (w10 : Int32) (w11 : Int32) (w12 : Int32) (w13 : Int32) (w14 : Int32) (g15 : Nat) (w16 : Int32) (g17 : Nat) (w18 : Int32) (w19 : Int32) (g20 : Nat) (w21 : Int32) (g22 : Nat) (g23 : Nat) (g24 : Nat) (w25 : Int32) (w26 : Int32) (w27 : Int32) (g28 : Nat) (g29 : Nat) (w30 : Int32) (g31 : Nat) (g32 : Nat) (g33 : Nat) (fa : Nat → Int32) (h_a : MI n fa) : Ct l yX8_count cX8_count 2 (some .int) 2 0 0 D T [.ref o, .int wh] [(o, .inr (8, [.int w0, .ref g1, .ref g2, .ref g3, .ref g4, .int (nI tp), .int w6, .int w7, .int w8, .int w9, .int w10, .int w11, .int w12, .int w13, .int w14, .ref g15, .int w16, .ref g17, .int w18, .int w19, .ref g20, .int w21, .ref g22, .ref g23, .ref g24, .int w25, .int w26, .int w27, .ref g28, .ref g29, .int w30, .ref g31, .ref g32, .ref g33])), (g1, .inl (T 0, 282, .inl fa))] (q_m_count_f T n o wh w0 g1 g2 g3 g4 tp w6 w7 w8 w9 w10 w11 w12 w13 w14 g15 w16 g17 w18 w19 g20 w21 g22 g23 g24 w25 w26 w27 g28 g29 w30 g31 g32 g33 fa) := by
  refine Ct.of (cc := cX8_count) (maxL := 2) (ret := (some .int)) (by decide) (Nat.le_of_ble_eq_true rfl) ?_
  intro p e s m args below meth c A ls hC hnm V hl
  obtain ⟨hx, hb, hr, hml, hown, hts, hlocks⟩ := id hC
  generalize hH : s.heap = H at V ⊢
  clear hH
  have hl : lv_has ls 2 [(0, .ref o), (1, .int wh)] := hl
  generalize hlo : ([] : List Loc) = locs at V ⊢
  clear hlo
  have ms0 := ms_rf h_a
  have hn10 := h_a.1
  refine lv_aload_n hx hb dX8_count_0 rfl (lv_at hl 0 rfl) ?_
  refine lv_iconst (v := (nI 0)) hx hb dX8_count_1 (by decide +kernel) ?_
  refine g_put hC V (ci := 8) uwX8 tyX8 tyX8_ok nmX8 0 rfl rfl 0 (by decide) w_912 rfl rfl rfl rfl (Nat.le_of_ble_eq_true rfl) (ws' := [(o, .inr (8, [.int (nI 0), .ref g1, .ref g2, .ref g3, .ref g4, .int (nI tp), .int w6, .int w7, .int w8, .int w9, .int w10, .int w11, .int w12, .int w13, .int w14, .ref g15, .int w16, .ref g17, .int w18, .int w19, .ref g20, .int w21, .ref g22, .ref g23, .ref g24, .int w25, .int w26, .int w27, .ref g28, .ref g29, .int w30, .ref g31, .ref g32, .ref g33])), (g1, .inl (T 0, 282, .inl fa))]) rfl dX8_count_2 (fun H locs V => ?_)
  refine lv_iload_n hx hb dX8_count_5 rfl (lv_at hl 1 rfl) ?_
  by_cases c_10 : wh = (nI 0)
  · skip
    refine lv_tableIn (tgt := 56) (off := 50) hx hb dX8_count_6 (by first | decide +kernel | (rw [c_10]; decide +kernel)) (by first | decide +kernel | (rw [c_10]; decide +kernel)) (by first | decide +kernel | (rw [c_10]; decide +kernel)) (by decide) ?_
    refine lv_aload_n hx hb dX8_count_56 rfl (lv_at hl 0 rfl) ?_
    refine g_get hC V (ci := 8) uwX8 0 rfl rfl 1 (by decide) w_913 rfl rfl dX8_count_57 ?_
    refine lv_iconst (v := (nI 0)) hx hb dX8_count_60 (by decide +kernel) ?_
    refine g_iald hC V 1 rfl (vp_in_nI (by decide) (by decide)) (v := (nI n)) (by rw [nI_clamp (by decide)]; first | rfl | exact h_a.2.1) dX8_count_61 ?_
    exact g_iret (Qr := (q_m_count_f T n o wh w0 g1 g2 g3 g4 tp w6 w7 w8 w9 w10 w11 w12 w13 w14 g15 w16 g17 w18 w19 g20 w21 g22 g23 g24 w25 w26 w27 g28 g29 w30 g31 g32 g33 fa)) hC V ⟨(Nat.le_of_ble_eq_true rfl), (Nat.le_of_ble_eq_true rfl)⟩ ⟨(nI n), rfl, rfl, (cou_0 (by assumption) rfl)⟩ dX8_count_62
  by_cases c_11 : wh = (nI 1)
  · skip
    refine lv_tableIn (tgt := 63) (off := 57) hx hb dX8_count_6 (by first | decide +kernel | (rw [c_11]; decide +kernel)) (by first | decide +kernel | (rw [c_11]; decide +kernel)) (by first | decide +kernel | (rw [c_11]; decide +kernel)) (by decide) ?_
    refine lv_aload_n hx hb dX8_count_63 rfl (lv_at hl 0 rfl) ?_
    refine g_get hC V (ci := 8) uwX8 0 rfl rfl 1 (by decide) w_913 rfl rfl dX8_count_64 ?_
    refine lv_iconst (v := (nI 1)) hx hb dX8_count_67 (by decide +kernel) ?_
    refine g_iald hC V 1 rfl (vp_in_nI (by decide) (by decide)) (v := (fa 1)) (congrArg _ (nI_clamp (by decide))) dX8_count_68 ?_
    exact g_iret (Qr := (q_m_count_f T n o wh w0 g1 g2 g3 g4 tp w6 w7 w8 w9 w10 w11 w12 w13 w14 g15 w16 g17 w18 w19 g20 w21 g22 g23 g24 w25 w26 w27 g28 g29 w30 g31 g32 g33 fa)) hC V ⟨(Nat.le_of_ble_eq_true rfl), (Nat.le_of_ble_eq_true rfl)⟩ ⟨(fa 1), rfl, rfl, (cou_1 (by assumption) rfl)⟩ dX8_count_69
  by_cases c_12 : wh = (nI 2)
  · skip
    refine lv_tableIn (tgt := 70) (off := 64) hx hb dX8_count_6 (by first | decide +kernel | (rw [c_12]; decide +kernel)) (by first | decide +kernel | (rw [c_12]; decide +kernel)) (by first | decide +kernel | (rw [c_12]; decide +kernel)) (by decide) ?_
    refine lv_aload_n hx hb dX8_count_70 rfl (lv_at hl 0 rfl) ?_
    refine g_callV (wr := []) (nA := 0) hC V hl.1 (m_doneMany_f l D T n o (nI 0) g1 g2 g3 g4 tp w6 w7 w8 w9 w10 w11 w12 w13 w14 g15 w16 g17 w18 w19 g20 w21 g22 g23 g24 w25 w26 w27 g28 g29 w30 g31 g32 g33 fa h_a) w_1158 w_1160 w_s56 w_9 w_1161 (by decide +kernel) rfl ⟨(Nat.le_of_ble_eq_true rfl), (Nat.le_of_ble_eq_true rfl)⟩ 0 (ci := 8) rfl rfl [0, 1] [] rfl rfl rfl rfl (by decide) (Nat.le_of_ble_eq_true rfl) dX8_count_71 ⟨(Nat.le_of_ble_eq_true rfl), (Nat.le_of_ble_eq_true rfl)⟩ rfl (fun r w1 H locs hQ V => ?_)
    obtain ⟨z_2, rfl, rfl, f_3⟩ := hQ
    have V : gW D T A s [(o, .inr (8, [.int (nI 0), .ref g1, .ref g2, .ref g3, .ref g4, .int (nI tp), .int w6, .int w7, .int w8, .int w9, .int w10, .int w11, .int w12, .int w13, .int w14, .ref g15, .int w16, .ref g17, .int w18, .int w19, .ref g20, .int w21, .ref g22, .ref g23, .ref g24, .int w25, .int w26, .int w27, .ref g28, .ref g29, .int w30, .ref g31, .ref g32, .ref g33])), (g1, .inl (T 0, 282, .inl fa))] H locs := V
    show W p l e _ s m args below meth c H locs _ _ _ (F0 m 74 ls [.int z_2])
    exact g_iret (Qr := (q_m_count_f T n o wh w0 g1 g2 g3 g4 tp w6 w7 w8 w9 w10 w11 w12 w13 w14 g15 w16 g17 w18 w19 g20 w21 g22 g23 g24 w25 w26 w27 g28 g29 w30 g31 g32 g33 fa)) hC V ⟨(Nat.le_of_ble_eq_true rfl), (Nat.le_of_ble_eq_true rfl)⟩ ⟨z_2, rfl, rfl, (cou_2 (by assumption) f_3)⟩ dX8_count_74
  by_cases c_13 : wh = (nI 3)
  · skip
    refine lv_tableIn (tgt := 75) (off := 69) hx hb dX8_count_6 (by first | decide +kernel | (rw [c_13]; decide +kernel)) (by first | decide +kernel | (rw [c_13]; decide +kernel)) (by first | decide +kernel | (rw [c_13]; decide +kernel)) (by decide) ?_
    refine lv_aload_n hx hb dX8_count_75 rfl (lv_at hl 0 rfl) ?_
    refine lv_bipush (v := (nI 74)) hx hb dX8_count_76 (by decide +kernel) ?_
    refine g_callV (wr := []) (nA := 1) hC V hl.1 (m_sumOf_f l D T n o 74 (nI 0) g1 g2 g3 g4 tp w6 w7 w8 w9 w10 w11 w12 w13 w14 g15 w16 g17 w18 w19 g20 w21 g22 g23 g24 w25 w26 w27 g28 g29 w30 g31 g32 g33 fa h_a (by omega)) w_1403 w_1405 w_s81 w_9 w_1406 (by decide +kernel) rfl ⟨(Nat.le_of_ble_eq_true rfl), (Nat.le_of_ble_eq_true rfl)⟩ 0 (ci := 8) rfl rfl [0, 1] [] rfl rfl rfl rfl (by decide) (Nat.le_of_ble_eq_true rfl) dX8_count_78 ⟨(Nat.le_of_ble_eq_true rfl), (Nat.le_of_ble_eq_true rfl)⟩ rfl (fun r w1 H locs hQ V => ?_)
    obtain ⟨z_4, rfl, rfl, f_5⟩ := hQ
    have V : gW D T A s [(o, .inr (8, [.int (nI 0), .ref g1, .ref g2, .ref g3, .ref g4, .int (nI tp), .int w6, .int w7, .int w8, .int w9, .int w10, .int w11, .int w12, .int w13, .int w14, .ref g15, .int w16, .ref g17, .int w18, .int w19, .ref g20, .int w21, .ref g22, .ref g23, .ref g24, .int w25, .int w26, .int w27, .ref g28, .ref g29, .int w30, .ref g31, .ref g32, .ref g33])), (g1, .inl (T 0, 282, .inl fa))] H locs := V
    show W p l e _ s m args below meth c H locs _ _ _ (F0 m 81 ls [.int z_4])
    exact g_iret (Qr := (q_m_count_f T n o wh w0 g1 g2 g3 g4 tp w6 w7 w8 w9 w10 w11 w12 w13 w14 g15 w16 g17 w18 w19 g20 w21 g22 g23 g24 w25 w26 w27 g28 g29 w30 g31 g32 g33 fa)) hC V ⟨(Nat.le_of_ble_eq_true rfl), (Nat.le_of_ble_eq_true rfl)⟩ ⟨z_4, rfl, rfl, (cou_3 (by assumption) (f_5.trans (su_sb n)))⟩ dX8_count_81
  by_cases c_14 : wh = (nI 4)
  · skip
    refine lv_tableIn (tgt := 82) (off := 76) hx hb dX8_count_6 (by first | decide +kernel | (rw [c_14]; decide +kernel)) (by first | decide +kernel | (rw [c_14]; decide +kernel)) (by first | decide +kernel | (rw [c_14]; decide +kernel)) (by decide) ?_
    refine lv_aload_n hx hb dX8_count_82 rfl (lv_at hl 0 rfl) ?_
    refine g_callV (wr := []) (nA := 0) hC V hl.1 (m_warmOnes_f l D T n o (nI 0) g1 g2 g3 g4 tp w6 w7 w8 w9 w10 w11 w12 w13 w14 g15 w16 g17 w18 w19 g20 w21 g22 g23 g24 w25 w26 w27 g28 g29 w30 g31 g32 g33 fa h_a) w_1407 w_1409 w_s82 w_9 w_1410 (by decide +kernel) rfl ⟨(Nat.le_of_ble_eq_true rfl), (Nat.le_of_ble_eq_true rfl)⟩ 0 (ci := 8) rfl rfl [0, 1] [] rfl rfl rfl rfl (by decide) (Nat.le_of_ble_eq_true rfl) dX8_count_83 ⟨(Nat.le_of_ble_eq_true rfl), (Nat.le_of_ble_eq_true rfl)⟩ rfl (fun r w1 H locs hQ V => ?_)
    obtain ⟨z_6, rfl, rfl, f_7⟩ := hQ
    have V : gW D T A s [(o, .inr (8, [.int (nI 0), .ref g1, .ref g2, .ref g3, .ref g4, .int (nI tp), .int w6, .int w7, .int w8, .int w9, .int w10, .int w11, .int w12, .int w13, .int w14, .ref g15, .int w16, .ref g17, .int w18, .int w19, .ref g20, .int w21, .ref g22, .ref g23, .ref g24, .int w25, .int w26, .int w27, .ref g28, .ref g29, .int w30, .ref g31, .ref g32, .ref g33])), (g1, .inl (T 0, 282, .inl fa))] H locs := V
    show W p l e _ s m args below meth c H locs _ _ _ (F0 m 86 ls [.int z_6])
    exact g_iret (Qr := (q_m_count_f T n o wh w0 g1 g2 g3 g4 tp w6 w7 w8 w9 w10 w11 w12 w13 w14 g15 w16 g17 w18 w19 g20 w21 g22 g23 g24 w25 w26 w27 g28 g29 w30 g31 g32 g33 fa)) hC V ⟨(Nat.le_of_ble_eq_true rfl), (Nat.le_of_ble_eq_true rfl)⟩ ⟨z_6, rfl, rfl, (cou_4 (by assumption) f_7)⟩ dX8_count_86
  by_cases c_15 : wh = (nI 5)
  · skip
    refine lv_tableIn (tgt := 87) (off := 81) hx hb dX8_count_6 (by first | decide +kernel | (rw [c_15]; decide +kernel)) (by first | decide +kernel | (rw [c_15]; decide +kernel)) (by first | decide +kernel | (rw [c_15]; decide +kernel)) (by decide) ?_
    refine lv_aload_n hx hb dX8_count_87 rfl (lv_at hl 0 rfl) ?_
    refine lv_bipush (v := (nI 24)) hx hb dX8_count_88 (by decide +kernel) ?_
    refine g_callV (wr := []) (nA := 1) hC V hl.1 (m_sumOf_f l D T n o 24 (nI 0) g1 g2 g3 g4 tp w6 w7 w8 w9 w10 w11 w12 w13 w14 g15 w16 g17 w18 w19 g20 w21 g22 g23 g24 w25 w26 w27 g28 g29 w30 g31 g32 g33 fa h_a (by omega)) w_1403 w_1405 w_s81 w_9 w_1406 (by decide +kernel) rfl ⟨(Nat.le_of_ble_eq_true rfl), (Nat.le_of_ble_eq_true rfl)⟩ 0 (ci := 8) rfl rfl [0, 1] [] rfl rfl rfl rfl (by decide) (Nat.le_of_ble_eq_true rfl) dX8_count_90 ⟨(Nat.le_of_ble_eq_true rfl), (Nat.le_of_ble_eq_true rfl)⟩ rfl (fun r w1 H locs hQ V => ?_)
    obtain ⟨z_8, rfl, rfl, f_9⟩ := hQ
    have V : gW D T A s [(o, .inr (8, [.int (nI 0), .ref g1, .ref g2, .ref g3, .ref g4, .int (nI tp), .int w6, .int w7, .int w8, .int w9, .int w10, .int w11, .int w12, .int w13, .int w14, .ref g15, .int w16, .ref g17, .int w18, .int w19, .ref g20, .int w21, .ref g22, .ref g23, .ref g24, .int w25, .int w26, .int w27, .ref g28, .ref g29, .int w30, .ref g31, .ref g32, .ref g33])), (g1, .inl (T 0, 282, .inl fa))] H locs := V
    show W p l e _ s m args below meth c H locs _ _ _ (F0 m 93 ls [.int z_8])
    exact g_iret (Qr := (q_m_count_f T n o wh w0 g1 g2 g3 g4 tp w6 w7 w8 w9 w10 w11 w12 w13 w14 g15 w16 g17 w18 w19 g20 w21 g22 g23 g24 w25 w26 w27 g28 g29 w30 g31 g32 g33 fa)) hC V ⟨(Nat.le_of_ble_eq_true rfl), (Nat.le_of_ble_eq_true rfl)⟩ ⟨z_8, rfl, rfl, (cou_5 (by assumption) f_9)⟩ dX8_count_93
  by_cases c_16 : wh = (nI 6)
  · skip
    refine lv_tableIn (tgt := 94) (off := 88) hx hb dX8_count_6 (by first | decide +kernel | (rw [c_16]; decide +kernel)) (by first | decide +kernel | (rw [c_16]; decide +kernel)) (by first | decide +kernel | (rw [c_16]; decide +kernel)) (by decide) ?_
    refine lv_aload_n hx hb dX8_count_94 rfl (lv_at hl 0 rfl) ?_
    refine g_get hC V (ci := 8) uwX8 0 rfl rfl 5 (by decide) w_917 rfl rfl dX8_count_95 ?_
    exact g_iret (Qr := (q_m_count_f T n o wh w0 g1 g2 g3 g4 tp w6 w7 w8 w9 w10 w11 w12 w13 w14 g15 w16 g17 w18 w19 g20 w21 g22 g23 g24 w25 w26 w27 g28 g29 w30 g31 g32 g33 fa)) hC V ⟨(Nat.le_of_ble_eq_true rfl), (Nat.le_of_ble_eq_true rfl)⟩ ⟨(nI tp), rfl, rfl, (cou_6 (by assumption) rfl)⟩ dX8_count_98
  by_cases c_17 : wh = (nI 7)
  · skip
    refine lv_tableIn (tgt := 99) (off := 93) hx hb dX8_count_6 (by first | decide +kernel | (rw [c_17]; decide +kernel)) (by first | decide +kernel | (rw [c_17]; decide +kernel)) (by first | decide +kernel | (rw [c_17]; decide +kernel)) (by decide) ?_
    refine lv_aload_n hx hb dX8_count_99 rfl (lv_at hl 0 rfl) ?_
    refine g_get hC V (ci := 8) uwX8 0 rfl rfl 1 (by decide) w_913 rfl rfl dX8_count_100 ?_
    refine lv_iconst (v := (nI 3)) hx hb dX8_count_103 (by decide +kernel) ?_
    refine g_iald hC V 1 rfl (vp_in_nI (by decide) (by decide)) (v := (fa 3)) (congrArg _ (nI_clamp (by decide))) dX8_count_104 ?_
    exact g_iret (Qr := (q_m_count_f T n o wh w0 g1 g2 g3 g4 tp w6 w7 w8 w9 w10 w11 w12 w13 w14 g15 w16 g17 w18 w19 g20 w21 g22 g23 g24 w25 w26 w27 g28 g29 w30 g31 g32 g33 fa)) hC V ⟨(Nat.le_of_ble_eq_true rfl), (Nat.le_of_ble_eq_true rfl)⟩ ⟨(fa 3), rfl, rfl, (cou_7 (by assumption) rfl)⟩ dX8_count_105
  by_cases c_18 : wh = (nI 8)
  · skip
    refine lv_tableIn (tgt := 106) (off := 100) hx hb dX8_count_6 (by first | decide +kernel | (rw [c_18]; decide +kernel)) (by first | decide +kernel | (rw [c_18]; decide +kernel)) (by first | decide +kernel | (rw [c_18]; decide +kernel)) (by decide) ?_
    refine lv_aload_n hx hb dX8_count_106 rfl (lv_at hl 0 rfl) ?_
    refine g_get hC V (ci := 8) uwX8 0 rfl rfl 1 (by decide) w_913 rfl rfl dX8_count_107 ?_
    refine lv_iconst (v := (nI 2)) hx hb dX8_count_110 (by decide +kernel) ?_
    obtain ⟨j_10, hj_10, ej_10⟩ := bd_ex (mi_lost h_a)
    refine g_iald hC V 1 rfl (vp_in_nI (by decide) (by decide)) (v := (nI j_10)) (by rw [nI_clamp (by omega)]; exact ej_10) dX8_count_111 ?_
    exact g_iret (Qr := (q_m_count_f T n o wh w0 g1 g2 g3 g4 tp w6 w7 w8 w9 w10 w11 w12 w13 w14 g15 w16 g17 w18 w19 g20 w21 g22 g23 g24 w25 w26 w27 g28 g29 w30 g31 g32 g33 fa)) hC V ⟨(Nat.le_of_ble_eq_true rfl), (Nat.le_of_ble_eq_true rfl)⟩ ⟨(nI j_10), rfl, rfl, (cou_8 (by assumption) ej_10.symm)⟩ dX8_count_112
  refine lv_tableOut (tgt := 113) hx hb dX8_count_6 (g_out 0 8 (fun k h1 h2 => ?_)) (by decide) ?_
  · intro h
    have h3 : k = 0 ∨ k = 1 ∨ k = 2 ∨ k = 3 ∨ k = 4 ∨ k = 5 ∨ k = 6 ∨ k = 7 ∨ k = 8 := by omega
    rcases h3 with rfl | rfl | rfl | rfl | rfl | rfl | rfl | rfl | rfl
    · exact c_10 (g_out2 h (by decide +kernel))
    · exact c_11 (g_out2 h (by decide +kernel))
    · exact c_12 (g_out2 h (by decide +kernel))
    · exact c_13 (g_out2 h (by decide +kernel))
    · exact c_14 (g_out2 h (by decide +kernel))
    · exact c_15 (g_out2 h (by decide +kernel))
    · exact c_16 (g_out2 h (by decide +kernel))
    · exact c_17 (g_out2 h (by decide +kernel))
    · exact c_18 (g_out2 h (by decide +kernel))
  refine lv_iconst (v := (-1)) hx hb dX8_count_113 (by decide +kernel) ?_
  exact g_iret (Qr := (q_m_count_f T n o wh w0 g1 g2 g3 g4 tp w6 w7 w8 w9 w10 w11 w12 w13 w14 g15 w16 g17 w18 w19 g20 w21 g22 g23 g24 w25 w26 w27 g28 g29 w30 g31 g32 g33 fa)) hC V ⟨(Nat.le_of_ble_eq_true rfl), (Nat.le_of_ble_eq_true rfl)⟩ ⟨(-1), rfl, rfl, (cou_d (by assumption) (by assumption) (by assumption) (by assumption) (by assumption) (by assumption) (by assumption) (by assumption) (by assumption))⟩ dX8_count_114
