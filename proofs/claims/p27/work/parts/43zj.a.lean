/-! SOONEST: what is met, as lists -/
def inz (V : List (List Nat)) (x : List Nat) : List (List Nat) := if x ∈ V ∨ V.length = 3001 then V else V ++ [x]
def inA (V xs : List (List Nat)) : List (List Nat) := xs.foldl inz V
theorem inz_y {V : List (List Nat)} {x : List Nat} (h : x ∈ V) : inz V x = V := by unfold inz; rw [if_pos (Or.inl h)]
theorem inz_f {V : List (List Nat)} {x : List Nat} (h : V.length = 3001) : inz V x = V := by unfold inz; rw [if_pos (Or.inr h)]
theorem inz_n {V : List (List Nat)} {x : List Nat} (h : ¬ x ∈ V) (h2 : ¬ V.length = 3001) : inz V x = V ++ [x] := by unfold inz; rw [if_neg (fun q => q.elim h h2)]
theorem inA_s (V xs : List (List Nat)) (x : List Nat) : inA V (xs ++ [x]) = inz (inA V xs) x := by unfold inA; rw [List.foldl_append]; rfl
theorem inA_app (V xs ys : List (List Nat)) : inA V (xs ++ ys) = inA (inA V xs) ys := by unfold inA; rw [List.foldl_append]
theorem inz_pre (V : List (List Nat)) (x : List Nat) : ∃ t, inz V x = V ++ t := by
  unfold inz; split
  · exact ⟨[], (List.append_nil V).symm⟩
  · exact ⟨[x], rfl⟩
theorem inA_pre : ∀ (xs V : List (List Nat)), ∃ t, inA V xs = V ++ t
  | [], V => ⟨[], (List.append_nil V).symm⟩
  | x :: xs, V => by
    obtain ⟨t, ht⟩ := inz_pre V x
    obtain ⟨u, hu⟩ := inA_pre xs (inz V x)
    exact ⟨t ++ u, by show inA (inz V x) xs = _; rw [hu, ht, List.append_assoc]⟩
theorem inz_le {V : List (List Nat)} {x : List Nat} (h : V.length ≤ 3001) : (inz V x).length ≤ 3001 := by
  unfold inz; split
  · exact h
  · rename_i c
    have : ¬ V.length = 3001 := fun q => c (Or.inr q)
    rw [List.length_append]; show V.length + 1 ≤ 3001; omega
theorem inA_le : ∀ (xs : List (List Nat)) {V : List (List Nat)}, V.length ≤ 3001 → (inA V xs).length ≤ 3001
  | [], _, h => h
  | _ :: xs, _, h => inA_le xs (inz_le h)
theorem inz_nd {V : List (List Nat)} {x : List Nat} (h : V.Nodup) : (inz V x).Nodup := by
  unfold inz; split
  · exact h
  · rename_i c
    have c1 : ¬ x ∈ V := fun q => c (Or.inl q)
    rw [List.nodup_append]
    exact ⟨h, List.nodup_cons.mpr ⟨List.not_mem_nil, List.nodup_nil⟩, fun a ha b hb => by rw [List.mem_singleton] at hb; rintro rfl; rw [hb] at ha; exact c1 ha⟩
theorem inA_nd : ∀ (xs : List (List Nat)) {V : List (List Nat)}, V.Nodup → (inA V xs).Nodup
  | [], _, h => h
  | _ :: xs, _, h => inA_nd xs (inz_nd h)
theorem inz_sub {V : List (List Nat)} {x y : List Nat} (h : y ∈ inz V x) : y ∈ V ∨ y = x := by
  unfold inz at h; split at h
  · exact Or.inl h
  · exact (List.mem_append.mp h).elim Or.inl (fun q => Or.inr (List.mem_singleton.mp q))
theorem inA_sub : ∀ (xs : List (List Nat)) {V : List (List Nat)} {y : List Nat}, y ∈ inA V xs → y ∈ V ∨ y ∈ xs
  | [], _, _, h => Or.inl h
  | x :: xs, _, _, h => by
    rcases inA_sub xs h with q | q
    · exact (inz_sub q).elim Or.inl (fun r => Or.inr (r ▸ List.mem_cons_self))
    · exact Or.inr (List.mem_cons_of_mem _ q)
theorem inA_mono {xs V : List (List Nat)} {y : List Nat} (h : y ∈ V) : y ∈ inA V xs := by
  obtain ⟨t, ht⟩ := inA_pre xs V; rw [ht]; exact List.mem_append_left _ h
theorem inA_len (xs V : List (List Nat)) : V.length ≤ (inA V xs).length := by
  obtain ⟨t, ht⟩ := inA_pre xs V; rw [ht, List.length_append]; omega
theorem inA_all : ∀ (xs : List (List Nat)) {V : List (List Nat)}, (inA V xs).length < 3001 → ∀ y, y ∈ xs → y ∈ inA V xs
  | [], _, _, _, h => absurd h List.not_mem_nil
  | x :: xs, V, hl, y, hy => by
    rcases List.mem_cons.mp hy with rfl | q
    · show y ∈ inA (inz V y) xs
      apply inA_mono
      unfold inz
      by_cases c : y ∈ V ∨ V.length = 3001
      · rw [if_pos c]
        rcases c with c | c
        · exact c
        · have := inA_len (y :: xs) V; omega
      · rw [if_neg c]; exact List.mem_append_right _ (List.mem_singleton.mpr rfl)
    · exact inA_all xs (V := inz V x) hl y q
theorem nd_le : ∀ (l m : List (List Nat)), l.Nodup → (∀ x, x ∈ l → x ∈ m) → l.length ≤ m.length
  | [], _, _, _ => Nat.zero_le _
  | x :: l, m, hn, hs => by
    obtain ⟨hx, hl⟩ := List.nodup_cons.mp hn
    have hm := hs x List.mem_cons_self
    have := nd_le l (m.erase x) hl (fun y hy => (List.mem_erase_of_ne (fun (e : y = x) => hx (e ▸ hy))).mpr (hs y (List.mem_cons_of_mem _ hy)))
    rw [List.length_erase_of_mem hm] at this
    have : 0 < m.length := List.length_pos_of_mem hm
    show l.length + 1 ≤ m.length; omega
/-- like ones behind like ones -/
theorem inA_eq {V W xs ys : List (List Nat)} (hV : V.Nodup) (hW : W.Nodup) (hVl : V.length ≤ 3001) (hWl : W.length ≤ 3001) (hVW : ∀ x, x ∈ V ↔ x ∈ W) (hxy : ∀ x, x ∈ xs ↔ x ∈ ys) :
    (inA V xs).length = (inA W ys).length ∧ ((inA V xs).length < 3001 → ∀ x, x ∈ inA V xs ↔ x ∈ inA W ys) := by
  have key : ∀ {V W xs ys : List (List Nat)}, V.Nodup → W.Nodup → V.length ≤ 3001 → W.length ≤ 3001 → (∀ x, x ∈ V ↔ x ∈ W) → (∀ x, x ∈ xs ↔ x ∈ ys) → (inA V xs).length < 3001 → (inA W ys).length ≤ (inA V xs).length ∧ ∀ x, x ∈ inA W ys → x ∈ inA V xs := by
    intro V W xs ys hV hW hVl hWl hVW hxy hl
    have hs : ∀ x, x ∈ inA W ys → x ∈ inA V xs := fun x hx => by
      rcases inA_sub ys hx with q | q
      · exact inA_mono ((hVW x).mpr q)
      · exact inA_all xs hl x ((hxy x).mpr q)
    exact ⟨nd_le _ _ (inA_nd ys hW) hs, hs⟩
  by_cases c : (inA V xs).length < 3001
  · obtain ⟨k1, k2⟩ := key hV hW hVl hWl hVW hxy c
    obtain ⟨j1, j2⟩ := key hW hV hWl hVl (fun x => (hVW x).symm) (fun x => (hxy x).symm) (by omega : (inA W ys).length < 3001)
    exact ⟨by omega, fun _ x => ⟨j2 x, k2 x⟩⟩
  · refine ⟨?_, fun h => absurd h c⟩
    have h1 := inA_le xs hVl
    have h2 := inA_le ys hWl
    by_cases d : (inA W ys).length < 3001
    · have := (key hW hV hWl hVl (fun x => (hVW x).symm) (fun x => (hxy x).symm) d).1; omega
    · omega
/-- MINUTE by MINUTE: who is behind a in V is new -/
def bfs (sc : List Nat → List (List Nat)) (en : List Nat → Bool) : Nat → Nat → List (List Nat) → Nat → Int32
  | 0, _, _, _ => -1
  | fu + 1, m, V, a =>
    if (V.drop a).any en = true then nI m
    else if (inA V ((V.drop a).flatMap sc)).length = 3001 then -4
    else if (inA V ((V.drop a).flatMap sc)).length = V.length then -1
    else bfs sc en fu (m + 1) (inA V ((V.drop a).flatMap sc)) V.length
theorem nd_drop {V : List (List Nat)} {a : Nat} (h : V.Nodup) (x : List Nat) : x ∈ V.drop a ↔ x ∈ V ∧ ¬ x ∈ V.take a := by
  have e : V.take a ++ V.drop a = V := List.take_append_drop a V
  have h2 : (V.take a ++ V.drop a).Nodup := by rw [e]; exact h
  rw [List.nodup_append] at h2
  constructor
  · intro hx
    exact ⟨List.mem_of_mem_drop hx, fun q => h2.2.2 x q x hx rfl⟩
  · rintro ⟨h3, h4⟩
    rw [← e] at h3
    exact (List.mem_append.mp h3).elim (fun q => absurd q h4) id
theorem bfs_eq {sc sc' : List Nat → List (List Nat)} {en : List Nat → Bool} {P : List Nat → Prop} (hP : ∀ x, P x → ∀ y, y ∈ sc x → P y) (hsc : ∀ x, P x → ∀ y, y ∈ sc x ↔ y ∈ sc' x) :
    ∀ (fu m : Nat) (V W : List (List Nat)) (a : Nat), V.Nodup → W.Nodup → V.length = W.length → V.length ≤ 3001 → (∀ x, x ∈ V → P x) → (∀ x, x ∈ V ↔ x ∈ W) → (∀ x, x ∈ V.take a ↔ x ∈ W.take a) → bfs sc en fu m V a = bfs sc' en fu m W a
  | 0, _, _, _, _, _, _, _, _, _, _, _ => rfl
  | fu + 1, m, V, W, a, hV, hW, hl, hle, hp, hm, ht => by
    have hd : ∀ x, x ∈ V.drop a ↔ x ∈ W.drop a := fun x => by rw [nd_drop hV, nd_drop hW, hm x, ht x]
    have hf : ∀ y, y ∈ (V.drop a).flatMap sc ↔ y ∈ (W.drop a).flatMap sc' := fun y => by
      rw [List.mem_flatMap, List.mem_flatMap]
      exact ⟨fun ⟨x, h1, h2⟩ => ⟨x, (hd x).mp h1, (hsc x (hp x (List.mem_of_mem_drop h1)) y).mp h2⟩, fun ⟨x, h1, h2⟩ => ⟨x, (hd x).mpr h1, (hsc x (hp x (List.mem_of_mem_drop ((hd x).mpr h1))) y).mpr h2⟩⟩
    have ha : (V.drop a).any en = (W.drop a).any en := by
      rw [Bool.eq_iff_iff, List.any_eq_true, List.any_eq_true]
      exact ⟨fun ⟨x, h1, h2⟩ => ⟨x, (hd x).mp h1, h2⟩, fun ⟨x, h1, h2⟩ => ⟨x, (hd x).mpr h1, h2⟩⟩
    obtain ⟨e1, e2⟩ := inA_eq hV hW hle (by omega) hm hf
    show (if (V.drop a).any en = true then nI m else _) = (if (W.drop a).any en = true then nI m else _)
    rw [← ha, ← e1, ← hl]
    by_cases c1 : (V.drop a).any en = true
    · rw [if_pos c1, if_pos c1]
    · rw [if_neg c1, if_neg c1]
      by_cases c2 : (inA V ((V.drop a).flatMap sc)).length = 3001
      · rw [if_pos c2, if_pos c2]
      · rw [if_neg c2, if_neg c2]
        by_cases c3 : (inA V ((V.drop a).flatMap sc)).length = V.length
        · rw [if_pos c3, if_pos c3]
        · rw [if_neg c3, if_neg c3]
          have hle2 := inA_le ((V.drop a).flatMap sc) hle
          obtain ⟨t, et⟩ := inA_pre ((V.drop a).flatMap sc) V
          obtain ⟨u, eu⟩ := inA_pre ((W.drop a).flatMap sc') W
          refine bfs_eq hP hsc fu (m + 1) _ _ V.length (inA_nd _ hV) (inA_nd _ hW) e1 hle2 ?_ (e2 (by omega)) ?_
          · intro x hx
            rcases inA_sub _ hx with q | q
            · exact hp x q
            · obtain ⟨y, h1, h2⟩ := List.mem_flatMap.mp q
              exact hP y (hp y (List.mem_of_mem_drop h1)) x h2
          · intro x
            rw [et, eu, List.take_left, hl, List.take_left]
            exact hm x
/-! what is met, as the tables have it: c codes, hs hashes -/
def PRB (c : List Nat → Int64) (hs : Int64 → Nat) (V : List (List Nat)) (f2 : Nat → Int32) (i d : Nat) : Prop := d < 8192 ∧ f2 ((hs (c (V.getD i [])) + d) % 8192) = nI (i + 1) ∧ ∀ d', d' < d → ¬ f2 ((hs (c (V.getD i [])) + d') % 8192) = nI 0
def HT (P : List Nat → Prop) (c : List Nat → Int64) (hs : Int64 → Nat) (V : List (List Nat)) (sm : Nat) (f1 : Nat → Int64) (f2 : Nat → Int32) : Prop :=
  V.length = sm ∧ sm ≤ 3001 ∧ V.Nodup ∧ (∀ x, x ∈ V → P x) ∧ (∀ i, i < sm → f1 i = c (V.getD i [])) ∧ (∀ i, i < 8192 → bd (f2 i) (sm + 1)) ∧ cntNZ f2 8192 ≤ sm ∧ ∀ i, i < sm → ∃ d, PRB c hs V f2 i d
/-- at k steps from its place the state x has been met by none -/
def PK (c : List Nat → Int64) (V : List (List Nat)) (f2 : Nat → Int32) (x : List Nat) (q k : Nat) : Prop := ∀ d, d < k → ∃ j, j < V.length ∧ f2 ((q + d) % 8192) = nI (j + 1) ∧ ¬ c (V.getD j []) = c x
theorem pk_0 {c : List Nat → Int64} {V : List (List Nat)} {f2 : Nat → Int32} {x : List Nat} {q : Nat} : PK c V f2 x q 0 := fun _ h => absurd h (Nat.not_lt_zero _)
theorem ht_r {P : List Nat → Prop} {c : List Nat → Int64} {hs : Int64 → Nat} {V : List (List Nat)} {sm i : Nat} {f1 : Nat → Int64} {f2 : Nat → Int32} (h : HT P c hs V sm f1 f2) (hi : i < sm) : f1 i = c (V.getD i []) ∧ P (V.getD i []) ∧ V.getD i [] ∈ V := by
  have hl : i < V.length := by rw [h.1]; exact hi
  have e : V.getD i [] ∈ V := by rw [List.getD_eq_getElem?_getD, List.getElem?_eq_getElem hl]; exact List.getElem_mem hl
  exact ⟨h.2.2.2.2.1 i hi, h.2.2.2.1 _ e, e⟩
theorem pk_s {P : List Nat → Prop} {c : List Nat → Int64} {hs : Int64 → Nat} {V : List (List Nat)} {sm k j q s : Nat} {f1 : Nat → Int64} {f2 : Nat → Int32} {x : List Nat} {v : Int64} (h : HT P c hs V sm f1 f2) (hk : PK c V f2 x q k) (es : s = (q + k) % 8192) (e : f2 s = nI j) (h0 : ¬ j = 0) (hj : j < sm + 1) (ev : v = c x) (hn : ¬ f1 (j - 1) = v) : PK c V f2 x q (k + 1) := fun d hd => by
  by_cases c1 : d = k
  · refine ⟨j - 1, by rw [h.1]; omega, by rw [c1, ← es, e, show j - 1 + 1 = j by omega], fun r => hn ?_⟩
    rw [(ht_r h (by omega)).1, r, ev]
  · exact hk d (by omega)
/-- it is there -/
theorem ht_y {P : List Nat → Prop} {c : List Nat → Int64} {hs : Int64 → Nat} {V : List (List Nat)} {sm j : Nat} {f1 : Nat → Int64} {f2 : Nat → Int32} {x : List Nat} {v : Int64} (hc : ∀ x y, P x → P y → c x = c y → x = y) (h : HT P c hs V sm f1 f2) (hx : P x) (h0 : ¬ j = 0) (hj : j < sm + 1) (ev : v = c x) (e : f1 (j - 1) = v) : HT P c hs (inz V x) sm f1 f2 := by
  obtain ⟨h1, h2, h3⟩ := ht_r h (show j - 1 < sm by omega)
  have : V.getD (j - 1) [] = x := hc _ _ h2 hx (by rw [← h1, e, ev])
  rw [inz_y (by rw [← this]; exact h3)]; exact h
/-- it isn't -/
theorem pk_no {P : List Nat → Prop} {c : List Nat → Int64} {hs : Int64 → Nat} {V : List (List Nat)} {sm k s q : Nat} {f1 : Nat → Int64} {f2 : Nat → Int32} {x : List Nat} (h : HT P c hs V sm f1 f2) (eq : q = hs (c x)) (hk : PK c V f2 x q k) (es : s = (q + k) % 8192) (hz : f2 s = nI 0) : ¬ x ∈ V := fun hx => by
  subst eq
  obtain ⟨i, hi, e⟩ := List.mem_iff_getElem.mp hx
  have ei : V.getD i [] = x := by rw [List.getD_eq_getElem?_getD, List.getElem?_eq_getElem hi]; exact e
  have hi2 : i < sm := by rw [← h.1]; exact hi
  have hs1 := h.2.1
  obtain ⟨d, hd, h1, h2⟩ := h.2.2.2.2.2.2.2 i hi2
  rw [ei] at h1 h2
  by_cases c1 : d < k
  · obtain ⟨j, hj, h3, h4⟩ := hk d c1
    rw [h.1] at hj
    have : i + 1 = j + 1 := b_eq (by omega) (by omega) (h1.symm.trans h3)
    exact h4 (by rw [show j = i by omega, ei])
  · by_cases c2 : d = k
    · rw [c2, ← es, hz] at h1
      have := b_eq (by omega) (by omega) h1; omega
    · exact h2 k (by omega) (by rw [← es]; exact hz)
theorem pk_nz {c : List Nat → Int64} {V : List (List Nat)} {f2 : Nat → Int32} {x : List Nat} {q k d : Nat} (hk : PK c V f2 x q k) (hl : V.length ≤ 3001) (hd : d < k) : ¬ f2 ((q + d) % 8192) = nI 0 := fun hz => by
  obtain ⟨j, hj, h3, -⟩ := hk d hd
  have := b_eq (by omega) (by omega) (h3.symm.trans hz); omega
/-- no free place was passed, so there is one -/
theorem pk_end {P : List Nat → Prop} {c : List Nat → Int64} {hs : Int64 → Nat} {V : List (List Nat)} {sm k q : Nat} {f1 : Nat → Int64} {f2 : Nat → Int32} {x : List Nat} (h : HT P c hs V sm f1 f2) (hk : PK c V f2 x q k) (hq : q < 8192) : ¬ 8192 ≤ k := fun hk2 => by
  obtain ⟨z, hz1, hz2⟩ := cnt_free (Nat.lt_of_le_of_lt h.2.2.2.2.2.2.1 (by have := h.2.1; omega))
  have hl : V.length ≤ 3001 := by rw [h.1]; exact h.2.1
  by_cases c1 : q ≤ z
  · exact pk_nz hk hl (show z - q < k by omega) (by rw [show (q + (z - q)) % 8192 = z by omega]; exact hz2)
  · exact pk_nz hk hl (show z + 8192 - q < k by omega) (by rw [show (q + (z + 8192 - q)) % 8192 = z by omega]; exact hz2)
theorem gd_a {V : List (List Nat)} {x : List Nat} {i : Nat} (h : i < V.length) : (V ++ [x]).getD i [] = V.getD i [] := by rw [List.getD_eq_getElem?_getD, List.getD_eq_getElem?_getD, List.getElem?_append_left h]
theorem gd_b {V : List (List Nat)} {x : List Nat} {i : Nat} (h : i = V.length) : (V ++ [x]).getD i [] = x := by
  subst h; rw [List.getD_eq_getElem?_getD, List.getElem?_append_right (Nat.le_refl _), Nat.sub_self]; rfl
theorem ht_put {P : List Nat → Prop} {c : List Nat → Int64} {hs : Int64 → Nat} {V : List (List Nat)} {sm k s q : Nat} {f1 : Nat → Int64} {f2 : Nat → Int32} {x : List Nat} {v : Int64} (h : HT P c hs V sm f1 f2) (hx : P x) (eq : q = hs (c x)) (hk : PK c V f2 x q k) (hk2 : k < 8192) (es : s = (q + k) % 8192) (hz : f2 s = nI 0) (hl : ¬ sm = 3001) (ev : v = c x) : HT P c hs (inz V x) (sm + 1) (vp_updL f1 sm v) (upd f2 s (nI (sm + 1))) := by
  have hno := pk_no h eq hk es hz
  subst eq
  obtain ⟨h1, h2, h3, h4, h5, h6, h7, h8⟩ := h
  have hs1 : s < 8192 := by rw [es]; exact Nat.mod_lt _ (by decide)
  have hlV : V.length ≤ 3001 := by omega
  have nz : ∀ w, ¬ f2 w = nI 0 → upd f2 s (nI (sm + 1)) w = f2 w := fun w hw => up_other (fun e => hw (e ▸ hz))
  rw [inz_n hno (by omega)]
  refine ⟨by rw [List.length_append]; show V.length + 1 = _; omega, by omega, ?_, ?_, ?_, ?_, ?_, ?_⟩
  · have := inz_nd (x := x) h3
    rw [inz_n hno (by omega)] at this; exact this
  · intro y hy
    rcases List.mem_append.mp hy with q | q
    · exact h4 y q
    · rw [List.mem_singleton.mp q]; exact hx
  · refine upL_one (p := fun i y => y = c ((V ++ [x]).getD i [])) (fun i hi => ?_) ?_
    · show f1 i = c ((V ++ [x]).getD i [])
      rw [gd_a (by omega)]; exact h5 i hi
    · show v = c ((V ++ [x]).getD sm [])
      rw [gd_b h1.symm]; exact ev
  · intro i hi
    by_cases c1 : i = s
    · rw [c1, up_same]; exact bd_nI (by omega)
    · rw [up_other c1]; exact bd_le (h6 i hi) (by omega)
  · have := cnt_up f2 s (nI (sm + 1)) 8192
    rw [if_pos hs1] at this; omega
  · intro i hi
    by_cases c1 : i = sm
    · refine ⟨k, hk2, ?_, fun d' hd => ?_⟩
      · rw [gd_b (c1.trans h1.symm), ← es, up_same, c1]
      · rw [gd_b (c1.trans h1.symm)]
        have q := pk_nz hk hlV hd
        rw [nz _ q]; exact q
    · obtain ⟨d, hd, g1, g2⟩ := h8 i (by omega)
      rw [← gd_a (x := x) (show i < V.length by omega)] at g1 g2
      have q : ¬ f2 ((hs (c ((V ++ [x]).getD i [])) + d) % 8192) = nI 0 := fun r => by
        rw [g1] at r; have := b_eq (by omega) (by omega) r; omega
      exact ⟨d, hd, by rw [nz _ q]; exact g1, fun d' hd' => by rw [nz _ (g2 d' hd')]; exact g2 d' hd'⟩
theorem ht_f {P : List Nat → Prop} {c : List Nat → Int64} {hs : Int64 → Nat} {V : List (List Nat)} {sm : Nat} {f1 : Nat → Int64} {f2 : Nat → Int32} {x : List Nat} (h : HT P c hs V sm f1 f2) (hl : sm = 3001) : HT P c hs (inz V x) sm f1 f2 := by
  rw [inz_f (h.1.trans hl)]; exact h
theorem ht_0 {P : List Nat → Prop} {c : List Nat → Int64} {hs : Int64 → Nat} {f1 : Nat → Int64} {f2 : Nat → Int32} (h : ∀ i, i < 8192 → f2 i = nI 0) : HT P c hs [] 0 f1 f2 :=
  ⟨rfl, by decide, List.nodup_nil, fun x hx => absurd hx List.not_mem_nil, fun i hi => absurd hi (Nat.not_lt_zero _), fun i hi => by rw [h i hi]; exact bd_nI (by decide), by rw [cnt_zero 8192 h]; exact Nat.le_refl _, fun i hi => absurd hi (Nat.not_lt_zero _)⟩
theorem ht_bd {P : List Nat → Prop} {c : List Nat → Int64} {hs : Int64 → Nat} {V : List (List Nat)} {sm i : Nat} {f1 : Nat → Int64} {f2 : Nat → Int32} (h : HT P c hs V sm f1 f2) (hi : i < 8192) : bd (f2 i) (sm + 1) := h.2.2.2.2.2.1 i hi
/-! a level -/
def lvT (V : List (List Nat)) (a b : Nat) : List (List Nat) := (V.take b).drop a
theorem lvz_z {V : List (List Nat)} {a : Nat} : lvT V a a = [] := List.drop_eq_nil_of_le (by rw [List.length_take]; omega)
theorem lvz_s {V : List (List Nat)} {a b : Nat} (hab : a ≤ b) (hb : b < V.length) : lvT V a (b + 1) = lvT V a b ++ [V.getD b []] := by
  unfold lvT
  rw [List.take_succ_eq_append_getElem hb, List.drop_append_of_le_length (by rw [List.length_take]; omega)]
  congr 2
  rw [List.getD_eq_getElem?_getD, List.getElem?_eq_getElem hb]; rfl
theorem lvz_e {V : List (List Nat)} {a b : Nat} (h : b = V.length) : lvT V a b = V.drop a := by unfold lvT; rw [h, List.take_length]
theorem pre_gd {V t : List (List Nat)} {i : Nat} (h : i < V.length) : (V ++ t).getD i [] = V.getD i [] := by rw [List.getD_eq_getElem?_getD, List.getD_eq_getElem?_getD, List.getElem?_append_left h]
theorem inA_gd {V xs : List (List Nat)} {i : Nat} (h : i < V.length) : (inA V xs).getD i [] = V.getD i [] := by
  obtain ⟨t, ht⟩ := inA_pre xs V; rw [ht]; exact pre_gd h
/-! STATES as numbers: the class's, the reference's -/
def cdC : List Nat → Nat
  | [] => 0
  | x :: t => x + 8192 * cdC t
def cdR (s : List Nat) : Nat := s.foldl (fun v x => 8192 * v + x) 0
def VS (n : Nat) (s : List Nat) : Prop := s.length = n ∧ ∀ x, x ∈ s → x < 8192
theorem cdR_s (s : List Nat) (x : Nat) : cdR (s ++ [x]) = 8192 * cdR s + x := by unfold cdR; rw [List.foldl_append]; rfl
theorem cdC_s : ∀ (s : List Nat) (x : Nat), cdC (s ++ [x]) = cdC s + 8192 ^ s.length * x
  | [], x => by show x + 8192 * 0 = 0 + 8192 ^ 0 * x; omega
  | y :: s, x => by
    show y + 8192 * cdC (s ++ [x]) = y + 8192 * cdC s + 8192 ^ (s.length + 1) * x
    rw [cdC_s s x, Nat.mul_add, Nat.pow_succ, Nat.mul_comm (8192 ^ s.length) 8192, Nat.mul_assoc, Nat.add_assoc]
theorem cdC_lt : ∀ (s : List Nat), (∀ x, x ∈ s → x < 8192) → cdC s < 8192 ^ s.length
  | [], _ => by decide
  | x :: t, h => by
    have h1 := h x List.mem_cons_self
    have h2 := cdC_lt t (fun y hy => h y (List.mem_cons_of_mem _ hy))
    show x + 8192 * cdC t < 8192 ^ (t.length + 1)
    rw [Nat.pow_succ]; omega
theorem cdC_inj : ∀ (s t : List Nat), (∀ x, x ∈ s → x < 8192) → (∀ x, x ∈ t → x < 8192) → s.length = t.length → cdC s = cdC t → s = t
  | [], [], _, _, _, _ => rfl
  | [], _ :: _, _, _, h, _ => by cases h
  | _ :: _, [], _, _, h, _ => by cases h
  | x :: s, y :: t, hs, ht, hl, h => by
    have h1 := hs x List.mem_cons_self
    have h2 := ht y List.mem_cons_self
    have h3 : x + 8192 * cdC s = y + 8192 * cdC t := h
    have e : x = y := by omega
    have e2 := cdC_inj s t (fun z hz => hs z (List.mem_cons_of_mem _ hz)) (fun z hz => ht z (List.mem_cons_of_mem _ hz)) (Nat.succ.inj hl) (by omega)
    rw [e, e2]
theorem cdR_rev : ∀ (s : List Nat), cdR s.reverse = cdC s
  | [] => rfl
  | x :: t => by
    rw [List.reverse_cons, cdR_s, cdR_rev t]
    show 8192 * cdC t + x = x + 8192 * cdC t; omega
theorem cdR_eq (s : List Nat) : cdR s = cdC s.reverse := by have := cdR_rev s.reverse; rw [List.reverse_reverse] at this; exact this
theorem cd_bd {n : Nat} {s : List Nat} (h : VS n s) (hn : n ≤ 3) : cdC s < 549755813888 ∧ cdR s < 549755813888 := by
  have hp : 8192 ^ n ≤ 549755813888 := Nat.pow_le_pow_right (by decide) hn
  have h1 := cdC_lt s h.2
  have h2 := cdC_lt s.reverse (fun x hx => h.2 x (List.mem_reverse.mp hx))
  rw [h.1] at h1
  rw [List.length_reverse, h.1] at h2
  exact ⟨by omega, by rw [cdR_eq]; omega⟩
theorem oL_inj {a b : Nat} (ha : a < 549755813888) (hb : b < 549755813888) (h : Int64.ofNat a = Int64.ofNat b) : a = b := by
  have h1 : (Int64.ofNat a).toInt = a := Int64.toInt_ofNat_of_lt (by omega)
  have h2 : (Int64.ofNat b).toInt = b := Int64.toInt_ofNat_of_lt (by omega)
  rw [h, h2] at h1; omega
def cC (s : List Nat) : Int64 := Int64.ofNat (cdC s)
def cR (s : List Nat) : Int64 := Int64.ofNat (cdR s)
theorem cC_inj {n : Nat} (hn : n ≤ 3) (x y : List Nat) (hx : VS n x) (hy : VS n y) (h : cC x = cC y) : x = y :=
  cdC_inj x y hx.2 hy.2 (hx.1.trans hy.1.symm) (oL_inj (cd_bd hx hn).1 (cd_bd hy hn).1 h)
theorem cR_inj {n : Nat} (hn : n ≤ 3) (x y : List Nat) (hx : VS n x) (hy : VS n y) (h : cR x = cR y) : x = y := by
  have e := oL_inj (cd_bd hx hn).2 (cd_bd hy hn).2 h
  rw [cdR_eq, cdR_eq] at e
  have := cdC_inj x.reverse y.reverse (fun z hz => hx.2 z (List.mem_reverse.mp hz)) (fun z hz => hy.2 z (List.mem_reverse.mp hz)) (by rw [List.length_reverse, List.length_reverse]; exact hx.1.trans hy.1.symm) e
  exact List.reverse_inj.mp this
theorem cdC_at : ∀ (s : List Nat) (i : Nat), (∀ x, x ∈ s → x < 8192) → cdC s / 8192 ^ i % 8192 = s.getD i 0
  | [], i, _ => by show 0 / 8192 ^ i % 8192 = 0; rw [Nat.zero_div]
  | x :: t, 0, h => by
    have h1 := h x List.mem_cons_self
    show (x + 8192 * cdC t) / 1 % 8192 = x; omega
  | x :: t, i + 1, h => by
    have h1 := h x List.mem_cons_self
    show (x + 8192 * cdC t) / 8192 ^ (i + 1) % 8192 = t.getD i 0
    rw [show 8192 ^ (i + 1) = 8192 * 8192 ^ i by rw [Nat.pow_succ, Nat.mul_comm], ← Nat.div_div_eq_div_mul, show (x + 8192 * cdC t) / 8192 = cdC t by omega]
    exact cdC_at t i (fun z hz => h z (List.mem_cons_of_mem _ hz))
theorem gd_lt {n i : Nat} {s : List Nat} (h : VS n s) (hi : i < n) : s.getD i 0 < 8192 := by
  have hl : i < s.length := by rw [h.1]; exact hi
  rw [List.getD_eq_getElem?_getD, List.getElem?_eq_getElem hl]; exact h.2 _ (List.getElem_mem hl)
theorem cdR_tk {k : Nat} {s : List Nat} (h : k < s.length) : cdR (s.take (k + 1)) = 8192 * cdR (s.take k) + s.getD k 0 := by
  rw [List.take_succ_eq_append_getElem h, cdR_s, List.getD_eq_getElem?_getD, List.getElem?_eq_getElem h]; rfl
/-! parts of a class's STATE -/
def ptC (v : Int64) (i : Nat) : Int32 := (v >>> ((nI (i * 13)).toInt64 &&& 63)).toInt32
theorem pt_bit {N i j : Nat} (hi : i < 3) (hj : j < 32) : (ptC (Int64.ofNat N) i).toBitVec.getLsbD j = N.testBit (i * 13 + j) := by
  have e1 : ((((nI (i * 13)).toInt64 &&& 63).toBitVec).smod 64).toNat = i * 13 := by
    have H : ∀ i : Fin 3, ((((nI (i.1 * 13)).toInt64 &&& 63).toBitVec).smod 64).toNat = i.1 * 13 := by decide +kernel
    exact H ⟨i, hi⟩
  show ((((Int64.ofNat N).toBitVec).sshiftRight' (((nI (i * 13)).toInt64 &&& 63).toBitVec.smod 64)).signExtend 32).getLsbD j = _
  rw [BitVec.getLsbD_signExtend, if_pos (by omega), decide_eq_true hj, Bool.true_and, BitVec.sshiftRight_eq', e1, BitVec.getLsbD_sshiftRight, if_pos (by omega), decide_eq_false (by omega : ¬ 64 ≤ j)]
  show (!false && (BitVec.ofNat 64 N).getLsbD (i * 13 + j)) = _
  rw [BitVec.getLsbD_ofNat, decide_eq_true (by omega : i * 13 + j < 64)]
  simp
theorem nI_bit {m j : Nat} (hj : j < 32) : (nI m).toBitVec.getLsbD j = m.testBit j := by
  show (BitVec.ofNat 32 m).getLsbD j = _
  rw [BitVec.getLsbD_ofNat, decide_eq_true hj, Bool.true_and]
theorem i32_bits {x y : Int32} (h : ∀ j, j < 32 → x.toBitVec.getLsbD j = y.toBitVec.getLsbD j) : x = y := Int32.toBitVec_inj.mp (BitVec.eq_of_getLsbD_eq h)
theorem tb_div {N a b m j : Nat} (h : N / 2 ^ a % 2 ^ m = b) (hj : j < m) : N.testBit (a + j) = b.testBit j := by
  rw [← h, Nat.testBit_mod_two_pow, decide_eq_true hj, Bool.true_and, Nat.testBit_div_two_pow, Nat.add_comm]
theorem un_at {n i : Nat} {s : List Nat} {v : Int64} (h : VS n s) (hn : n ≤ 3) (hi : i < n) (ev : v = cC s) : ptC v i &&& nI 31 = nI (s.getD i 0 % 32) ∧ (ptC v i >>> (nI 5 &&& 31)) &&& nI 255 = nI (s.getD i 0 / 32) := by
  have hb := (cd_bd h hn).1
  have hx := gd_lt h hi
  have e := cdC_at s i h.2
  rw [show (8192 : Nat) = 2 ^ 13 by decide, ← Nat.pow_mul, Nat.mul_comm 13 i] at e
  have hbit : ∀ j, j < 13 → (cdC s).testBit (i * 13 + j) = (s.getD i 0).testBit j := fun j hj => tb_div e hj
  have d32 : ∀ m j : Nat, (m / 32).testBit j = m.testBit (j + 5) := fun m j => Nat.testBit_div_two_pow (n := 5) m j
  subst ev
  constructor
  · refine i32_bits (fun j hj => ?_)
    show ((ptC (Int64.ofNat (cdC s)) i).toBitVec &&& (nI 31).toBitVec).getLsbD j = _
    rw [BitVec.getLsbD_and, pt_bit (by omega) hj, nI_bit hj, nI_bit hj, show (31 : Nat) = 2 ^ 5 - 1 by decide, Nat.testBit_two_pow_sub_one, show (32 : Nat) = 2 ^ 5 by decide, Nat.testBit_mod_two_pow]
    by_cases c : j < 5
    · rw [hbit j (by omega), decide_eq_true c, Bool.and_true, Bool.true_and]
    · rw [decide_eq_false c, Bool.and_false, Bool.false_and]
  · refine i32_bits (fun j hj => ?_)
    have e2 : (((nI 5 &&& 31).toBitVec).smod 32).toNat = 5 := by decide +kernel
    show (((ptC (Int64.ofNat (cdC s)) i).toBitVec).sshiftRight' ((nI 5 &&& 31).toBitVec.smod 32) &&& (nI 255).toBitVec).getLsbD j = _
    rw [BitVec.getLsbD_and, nI_bit hj, nI_bit hj, show (255 : Nat) = 2 ^ 8 - 1 by decide, Nat.testBit_two_pow_sub_one, d32]
    by_cases c : j < 8
    · rw [BitVec.sshiftRight_eq', e2, BitVec.getLsbD_sshiftRight, if_pos (by omega), decide_eq_false (by omega : ¬ 32 ≤ j), pt_bit (by omega) (by omega), hbit (5 + j) (by omega), decide_eq_true c, Nat.add_comm 5 j]
      simp
    · rw [decide_eq_false c, Bool.and_false]
      exact (Nat.testBit_lt_two_pow (Nat.lt_of_lt_of_le hx (by rw [show 8192 = 2 ^ 13 by decide]; exact Nat.pow_le_pow_right (by decide) (by omega)))).symm
/-! .. put together -/
theorem i64_bits {x y : Int64} (h : ∀ j, j < 64 → x.toBitVec.getLsbD j = y.toBitVec.getLsbD j) : x = y := Int64.toBitVec_inj.mp (BitVec.eq_of_getLsbD_eq h)
theorem oL_bit {m j : Nat} (hj : j < 64) : (Int64.ofNat m).toBitVec.getLsbD j = m.testBit j := by
  show (BitVec.ofNat 64 m).getLsbD j = _
  rw [BitVec.getLsbD_ofNat, decide_eq_true hj, Bool.true_and]
theorem pa_eq {a b i : Nat} (ha : a < 256) (hb : b < 32) (hi : i < 3) : ((nI a <<< (nI 5 &&& 31)) ||| nI b).toInt64 <<< ((nI (i * 13)).toInt64 &&& 63) = Int64.ofNat (8192 ^ i * (32 * a + b)) := by
  have e0 : (nI a <<< (nI 5 &&& 31)) ||| nI b = nI (32 * a + b) := by
    refine i32_bits (fun j hj => ?_)
    have e2 : (((nI 5 &&& 31).toBitVec).smod 32).toNat = 5 := by decide +kernel
    show (((nI a).toBitVec) <<< ((nI 5 &&& 31).toBitVec.smod 32) ||| (nI b).toBitVec).getLsbD j = _
    rw [BitVec.getLsbD_or, BitVec.shiftLeft_eq', e2, BitVec.getLsbD_shiftLeft, nI_bit hj, nI_bit hj, show 32 * a + b = 2 ^ 5 * a + b by omega, Nat.testBit_two_pow_mul_add a (show b < 2 ^ 5 by omega) j, decide_eq_true hj, Bool.true_and]
    by_cases c : j < 5
    · rw [if_pos c, decide_eq_true c]; simp
    · rw [if_neg c, decide_eq_false c, Bool.not_false, Bool.true_and, nI_bit (by omega), Nat.testBit_lt_two_pow (Nat.lt_of_lt_of_le (show b < 2 ^ 5 by omega) (Nat.pow_le_pow_right (by decide) (by omega))), Bool.or_false]
  rw [e0]
  have e3 : (nI (32 * a + b)).toInt64 = Int64.ofNat (32 * a + b) := oL_i (by omega)
  rw [e3]
  have e1 : ((((nI (i * 13)).toInt64 &&& 63).toBitVec).smod 64).toNat = i * 13 := by
    have H : ∀ i : Fin 3, ((((nI (i.1 * 13)).toInt64 &&& 63).toBitVec).smod 64).toNat = i.1 * 13 := by decide +kernel
    exact H ⟨i, hi⟩
  refine i64_bits (fun j hj => ?_)
  show (((Int64.ofNat (32 * a + b)).toBitVec) <<< ((nI (i * 13)).toInt64 &&& 63).toBitVec.smod 64).getLsbD j = _
  rw [BitVec.shiftLeft_eq', e1, BitVec.getLsbD_shiftLeft, oL_bit hj, show (8192 : Nat) = 2 ^ 13 by decide, ← Nat.pow_mul, Nat.mul_comm 13 i, Nat.testBit_two_pow_mul, decide_eq_true hj, Bool.true_and]
  by_cases c : j < i * 13
  · rw [decide_eq_true c, decide_eq_false (by omega)]; simp
  · rw [decide_eq_false c, decide_eq_true (by omega), oL_bit (by omega)]; simp
theorem pa_or {s : List Nat} {x i : Nat} (hs : VS i s) : cC s ||| Int64.ofNat (8192 ^ i * x) = cC (s ++ [x]) := by
  have hl := cdC_lt s hs.2
  rw [hs.1] at hl
  refine i64_bits (fun j hj => ?_)
  show ((Int64.ofNat (cdC s)).toBitVec ||| (Int64.ofNat (8192 ^ i * x)).toBitVec).getLsbD j = (Int64.ofNat (cdC (s ++ [x]))).toBitVec.getLsbD j
  rw [BitVec.getLsbD_or, oL_bit hj, oL_bit hj, oL_bit hj, cdC_s, hs.1]
  rw [show (8192 : Nat) = 2 ^ 13 by decide, ← Nat.pow_mul] at hl ⊢
  rw [Nat.add_comm, Nat.two_pow_add_eq_or_of_lt hl, Nat.testBit_or, Bool.or_comm]
/-! the numbers of a STATE -/
def stF (n : Nat) (f : Nat → Int32) (s : List Nat) : Nat → Int32 := fun j => if 24 ≤ j ∧ j < 24 + n then nI (s.getD (j - 24) 0 / 32) else if 64 ≤ j ∧ j < 64 + n then nI (s.getD (j - 64) 0 % 32) else f j
theorem sf_24 {n i : Nat} {f : Nat → Int32} {s : List Nat} (hi : i < n) : stF n f s (24 + i) = nI (s.getD i 0 / 32) := by unfold stF; rw [if_pos (by omega), show 24 + i - 24 = i by omega]
theorem sf_64 {n i : Nat} {f : Nat → Int32} {s : List Nat} (hn : n ≤ 10) (hi : i < n) : stF n f s (64 + i) = nI (s.getD i 0 % 32) := by unfold stF; rw [if_neg (by omega), if_pos (by omega), show 64 + i - 64 = i by omega]
theorem sf_o {n j : Nat} {f : Nat → Int32} {s : List Nat} (hn : n ≤ 10) (h : j < 24 ∨ (34 ≤ j ∧ j < 64) ∨ 74 ≤ j) : stF n f s j = f j := by unfold stF; rw [if_neg (by omega), if_neg (by omega)]
theorem sf_mi {n : Nat} {f : Nat → Int32} {s : List Nat} (h : MI n f) (hs : VS n s) : MI n (stF n f s) := by
  have hn := h.1
  refine ⟨hn, by rw [sf_o hn (by omega)]; exact h.2.1, by rw [sf_o hn (by omega)]; exact h.2.2.1, fun i hi => ?_⟩
  obtain ⟨a1, a2, a3, a4, a5, a6⟩ := h.2.2.2 i hi
  have hx := gd_lt hs hi
  refine ⟨by rw [sf_o hn (by omega)]; exact a1, by rw [sf_24 hi]; exact bd_nI (by omega), by rw [sf_o hn (by omega)]; exact a3, by rw [sf_64 hn hi]; exact bd_nI (by omega), by rw [sf_o hn (by omega)]; exact a5, by rw [sf_o hn (by omega)]; exact a6⟩
def xcF (g : Nat → Int32) (i : Nat) : Nat := 32 * (g (24 + i)).toNatClampNeg + (g (64 + i)).toNatClampNeg
def rdF (n : Nat) (g : Nat → Int32) : List Nat := (List.range n).map (xcF g)
theorem rd_s {k : Nat} {g : Nat → Int32} : rdF (k + 1) g = rdF k g ++ [xcF g k] := by unfold rdF; rw [List.range_succ, List.map_append]; rfl
theorem rd_len {n : Nat} {g : Nat → Int32} : (rdF n g).length = n := by unfold rdF; rw [List.length_map, List.length_range]
theorem xc_eq {g : Nat → Int32} {i a b : Nat} (ha : g (24 + i) = nI a) (hb : g (64 + i) = nI b) (la : a < 256) (lb : b < 32) : xcF g i = 32 * a + b := by unfold xcF; rw [ha, hb, nI_clamp (by omega), nI_clamp (by omega)]
theorem rd_vs {n : Nat} {g : Nat → Int32} (h : ∀ i, i < n → bd (g (24 + i)) 256 ∧ bd (g (64 + i)) 32) : VS n (rdF n g) := by
  refine ⟨rd_len, fun x hx => ?_⟩
  obtain ⟨i, hi, e⟩ := List.mem_map.mp hx
  obtain ⟨⟨a, ha, ea⟩, ⟨b, hb, eb⟩⟩ := h i (List.mem_range.mp hi)
  rw [← e, xc_eq ea eb ha hb]; omega
theorem rd_ext {n : Nat} {f g : Nat → Int32} (h : ∀ i, i < n → g (24 + i) = f (24 + i) ∧ g (64 + i) = f (64 + i)) : rdF n g = rdF n f := by
  unfold rdF
  exact List.map_congr_left (fun i hi => by unfold xcF; rw [(h i (List.mem_range.mp hi)).1, (h i (List.mem_range.mp hi)).2])
/-- alike in what a MINUTE asks for -/
def EG (n : Nat) (g f : Nat → Int32) : Prop := g 2 = f 2 ∧ ∀ i, i < n → g (4 + i) = f (4 + i) ∧ g (14 + i) = f (14 + i) ∧ g (24 + i) = f (24 + i) ∧ g (34 + i) = f (34 + i) ∧ g (44 + i) = f (44 + i) ∧ g (54 + i) = f (54 + i) ∧ g (64 + i) = f (64 + i) ∧ g (84 + i) = f (84 + i)
theorem eg_h {n i : Nat} {f g : Nat → Int32} {pl fi mr : Int32} (h : EG n g f) (hi : i < n) : hNw n g pl fi mr i = hNw n f pl fi mr i := by
  obtain ⟨a1, a2, a3, a4, a5, a6, a7, a8⟩ := h.2 i hi
  unfold hNw
  rw [a3, a2, bsF_ext (fun k hk => (h.2 k hk).1) (fun k hk => (h.2 k hk).2.2.2.2.2.2.2) n (Nat.le_refl _)]
theorem eg_st {n i : Nat} {f g : Nat → Int32} {sk : Int32} (h : EG n g f) (hi : i < n) : (strP g sk i ↔ strP f sk i) ∧ st1 g sk i = st1 f sk i := by
  obtain ⟨a1, a2, a3, a4, a5, a6, a7, a8⟩ := h.2 i hi
  have e : strP g sk i ↔ strP f sk i := by unfold strP warmP; rw [a7, a6, a3, a4, a5]
  refine ⟨e, ?_⟩
  unfold st1
  by_cases c : strP g sk i
  · rw [if_pos c, if_pos (e.mp c), a7]
  · rw [if_neg c, if_neg (fun q => c (e.mpr q)), a7]
theorem eg_2 {n i : Nat} {f g : Nat → Int32} {pl sk fi mr : Int32} (h : EG n g f) (hi : i < n) : st2 n g pl sk fi mr i = st2 n f pl sk fi mr i := by
  obtain ⟨a1, a2, a3, a4, a5, a6, a7, a8⟩ := h.2 i hi
  have e1 := (eg_st (sk := sk) h hi).2
  have e : burP n g pl sk fi mr i ↔ burP n f pl sk fi mr i := by unfold burP; rw [e1, a6, a5, eg_h h hi]
  unfold st2
  by_cases c : burP n g pl sk fi mr i
  · rw [if_pos c, if_pos (e.mp c), e1, h.1]
  · rw [if_neg c, if_neg (fun q => c (e.mpr q)), e1]
/-- the STATE behind a MINUTE -/
def nx (n : Nat) (f : Nat → Int32) (s : List Nat) (p q : Nat) : List Nat := rdF n (goF n (stF n f s) (nI p) (nI q) (-1) (nI 0))
theorem eg_nx {n p q : Nat} {f g : Nat → Int32} {s : List Nat} (hn : n ≤ 10) (h : EG n g (stF n f s)) : rdF n (goF n g (nI p) (nI q) (-1) (nI 0)) = nx n f s p q :=
  rd_ext (fun i hi => ⟨by rw [goF_24 hn hi, goF_24 hn hi]; exact eg_h h hi, by rw [goF_64 hn hi, goF_64 hn hi]; exact eg_2 h hi⟩)
/-- all but MINUTE, HEATS, strokes and who is BURNT is as in f; the STATE is s -/
def AG (f g : Nat → Int32) : Prop := ∀ j, j ≠ 1 → ¬ (24 ≤ j ∧ j < 34) → ¬ (64 ≤ j ∧ j < 84) → g j = f j
def GS (n : Nat) (s : List Nat) (g : Nat → Int32) : Prop := ∀ i, i < n → g (24 + i) = nI (s.getD i 0 / 32) ∧ g (64 + i) = nI (s.getD i 0 % 32)
theorem ag_eg {n : Nat} {f g : Nat → Int32} {s : List Nat} (hn : n ≤ 10) (h : AG f g) (hs : GS n s g) : EG n g (stF n f s) := by
  have o : ∀ j, j ≠ 1 → (j < 24 ∨ (34 ≤ j ∧ j < 64) ∨ 84 ≤ j) → g j = stF n f s j := fun j h1 h2 => by rw [sf_o hn (by omega)]; exact h j h1 (by omega) (by omega)
  exact ⟨o 2 (by omega) (by omega), fun i hi => ⟨o _ (by omega) (by omega), o _ (by omega) (by omega), by rw [sf_24 hi]; exact (hs i hi).1, o _ (by omega) (by omega), o _ (by omega) (by omega), o _ (by omega) (by omega), by rw [sf_64 hn hi]; exact (hs i hi).2, o _ (by omega) (by omega)⟩⟩
theorem ag_go {n : Nat} {f g : Nat → Int32} {pl sk fi mr : Int32} (hn : n ≤ 10) (h : AG f g) : AG f (goF n g pl sk fi mr) := fun j h1 h2 h3 => by
  rw [goF_o hn h1 (by omega)]; exact h j h1 h2 h3
theorem nx_vs {n p q : Nat} {f : Nat → Int32} {s : List Nat} (hM : MI n f) (hs : VS n s) : VS n (nx n f s p q) := by
  have h := MI_go (pl := nI p) (sk := nI q) (fi := -1) (mr := nI 0) (sf_mi hM hs)
  exact rd_vs (fun i hi => ⟨mi_heat h hi, mi_has h hi⟩)
/-- who can strike so that it counts -/
abbrev abP (g : Nat → Int32) (i : Nat) : Prop := g (64 + i) < g (54 + i) ∧ warmP g i
def abN (g : Nat → Int32) : Nat → Nat
  | 0 => 0
  | k + 1 => abN g k + (if abP g k then 2 ^ k else 0)
theorem ab_lt {g : Nat → Int32} : ∀ k, abN g k < 2 ^ k
  | 0 => Nat.one_pos
  | k + 1 => by
    have := ab_lt (g := g) k
    show abN g k + (if abP g k then 2 ^ k else 0) < 2 ^ (k + 1)
    rw [Nat.pow_succ]
    split <;> omega
theorem ab_bit {g : Nat → Int32} : ∀ (k i : Nat), i < k → ((abN g k).testBit i = true ↔ abP g i)
  | 0, _, h => absurd h (Nat.not_lt_zero _)
  | k + 1, i, h => by
    have hl := ab_lt (g := g) k
    show (abN g k + (if abP g k then 2 ^ k else 0)).testBit i = true ↔ _
    by_cases c : i = k
    · subst c
      by_cases d : abP g i
      · rw [if_pos d, Nat.add_comm, Nat.testBit_two_pow_add_eq, Nat.testBit_lt_two_pow hl]; exact ⟨fun _ => d, fun _ => rfl⟩
      · rw [if_neg d, Nat.add_zero, Nat.testBit_lt_two_pow hl]; exact ⟨fun q => (by cases q), fun q => absurd q d⟩
    · have ih := ab_bit (g := g) k i (by omega)
      by_cases d : abP g k
      · rw [if_pos d, Nat.add_comm, Nat.testBit_two_pow_add_gt (by omega)]; exact ih
      · rw [if_neg d, Nat.add_zero]; exact ih
theorem bp_8 {q i : Nat} (hq : q < 8) (hi : i < 3) : bitP (nI q) i ↔ q.testBit i = true := by
  have H : ∀ (q : Fin 8) (i : Fin 3), bitP (nI q.1) i.1 ↔ q.1.testBit i.1 = true := by decide +kernel
  exact H ⟨q, hq⟩ ⟨i, hi⟩
theorem nx_q {n p q q' : Nat} {f : Nat → Int32} {s : List Nat} (hn : n ≤ 10) (h : ∀ i, i < n → abP (stF n f s) i → (bitP (nI q) i ↔ bitP (nI q') i)) : nx n f s p q = nx n f s p q' := by
  have e1 : ∀ i, i < n → st1 (stF n f s) (nI q) i = st1 (stF n f s) (nI q') i := fun i hi => by
    have e : strP (stF n f s) (nI q) i ↔ strP (stF n f s) (nI q') i := ⟨fun r => ⟨(h i hi r.2).mp r.1, r.2⟩, fun r => ⟨(h i hi r.2).mpr r.1, r.2⟩⟩
    unfold st1
    by_cases c : strP (stF n f s) (nI q) i
    · rw [if_pos c, if_pos (e.mp c)]
    · rw [if_neg c, if_neg (fun r => c (e.mpr r))]
  refine rd_ext (fun i hi => ⟨by rw [goF_24 hn hi, goF_24 hn hi], ?_⟩)
  rw [goF_64 hn hi, goF_64 hn hi]
  have e2 : burP n (stF n f s) (nI p) (nI q) (-1) (nI 0) i ↔ burP n (stF n f s) (nI p) (nI q') (-1) (nI 0) i := by unfold burP; rw [e1 i hi]
  unfold st2
  by_cases c : burP n (stF n f s) (nI p) (nI q) (-1) (nI 0) i
  · rw [if_pos c, if_pos (e2.mp c), e1 i hi]
  · rw [if_neg c, if_neg (fun r => c (e2.mpr r)), e1 i hi]
/-! all that can be in a MINUTE: as the class goes through it, as the reference does -/
def okB (a p q : Nat) : Bool := (q &&& a == q) && (q &&& p == 0)
def scS (n : Nat) (f : Nat → Int32) (s : List Nat) (p k : Nat) : List (List Nat) := ((List.range k).filter (okB (abN (stF n f s) n) p)).map (nx n f s p)
def scP (n : Nat) (f : Nat → Int32) (s : List Nat) (k : Nat) : List (List Nat) := (List.range k).flatMap (fun p => scS n f s p (abN (stF n f s) n + 1))
def scC (n : Nat) (f : Nat → Int32) (s : List Nat) : List (List Nat) := scP n f s (2 ^ n)
theorem scS_y {n p k : Nat} {f : Nat → Int32} {s : List Nat} (h : okB (abN (stF n f s) n) p k = true) : scS n f s p (k + 1) = scS n f s p k ++ [nx n f s p k] := by
  unfold scS; rw [List.range_succ, List.filter_append, List.map_append, List.filter_cons_of_pos h]; rfl
theorem scS_n {n p k : Nat} {f : Nat → Int32} {s : List Nat} (h : ¬ okB (abN (stF n f s) n) p k = true) : scS n f s p (k + 1) = scS n f s p k := by
  unfold scS; rw [List.range_succ, List.filter_append, List.map_append, List.filter_cons_of_neg h]; exact List.append_nil _
theorem scP_s {n k : Nat} {f : Nat → Int32} {s : List Nat} : scP n f s (k + 1) = scP n f s k ++ scS n f s k (abN (stF n f s) n + 1) := by
  unfold scP; rw [List.range_succ, List.flatMap_append, List.flatMap_singleton]
def puN (c : Nat) : Nat → Nat
  | 0 => 0
  | i + 1 => puN c i + (if c / 3 ^ i % 3 = 1 then 2 ^ i else 0)
def skN (c : Nat) : Nat → Nat
  | 0 => 0
  | i + 1 => skN c i + (if c / 3 ^ i % 3 = 2 then 2 ^ i else 0)
def scQ (n : Nat) (f : Nat → Int32) (s : List Nat) (k : Nat) : List (List Nat) := (List.range k).map (fun c => nx n f s (puN c n) (skN c n))
def scR (n : Nat) (f : Nat → Int32) (s : List Nat) : List (List Nat) := scQ n f s (3 ^ n)
theorem scQ_s {n k : Nat} {f : Nat → Int32} {s : List Nat} : scQ n f s (k + 1) = scQ n f s k ++ [nx n f s (puN k n) (skN k n)] := by unfold scQ; rw [List.range_succ, List.map_append]; rfl
theorem pu_lt (c : Nat) : ∀ k, puN c k < 2 ^ k ∧ skN c k < 2 ^ k
  | 0 => ⟨Nat.one_pos, Nat.one_pos⟩
  | k + 1 => by
    have := pu_lt c k
    show puN c k + (if c / 3 ^ k % 3 = 1 then 2 ^ k else 0) < 2 ^ (k + 1) ∧ skN c k + (if c / 3 ^ k % 3 = 2 then 2 ^ k else 0) < 2 ^ (k + 1)
    rw [Nat.pow_succ]
    constructor <;> split <;> omega
theorem code_1 : ∀ n, n < 4 → ∀ c, c < 27 → skN c n &&& puN c n = 0 := by decide +kernel
theorem code_3 : ∀ n, n < 4 → ∀ p, p < 2 ^ n → ∀ q, q < 2 ^ n → q &&& p = 0 → (List.range (3 ^ n)).any (fun c => puN c n == p && skN c n == q) = true := by decide +kernel
theorem code_2 (n : Nat) (hn : n < 4) (p : Nat) (hp : p < 2 ^ n) (q : Nat) (hq : q < 2 ^ n) (h : q &&& p = 0) : ∃ c, c < 3 ^ n ∧ puN c n = p ∧ skN c n = q := by
  obtain ⟨c, h1, h2⟩ := List.any_eq_true.mp (code_3 n hn p hp q hq h)
  rw [Bool.and_eq_true, beq_iff_eq, beq_iff_eq] at h2
  exact ⟨c, List.mem_range.mp h1, h2⟩
theorem p38 {n : Nat} (hn : n ≤ 3) : 2 ^ n ≤ 8 ∧ 3 ^ n ≤ 27 := ⟨Nat.pow_le_pow_right (by decide) hn, Nat.pow_le_pow_right (by decide) hn⟩
theorem soc_eq {n : Nat} {f : Nat → Int32} {s : List Nat} (hn : n ≤ 3) (y : List Nat) : y ∈ scC n f s ↔ y ∈ scR n f s := by
  have hp := p38 hn
  have hab := ab_lt (g := stF n f s) n
  unfold scC scP scR scQ
  rw [List.mem_flatMap, List.mem_map]
  constructor
  · rintro ⟨p, h1, h2⟩
    obtain ⟨q, h3, e⟩ := List.mem_map.mp h2
    obtain ⟨h4, h5⟩ := List.mem_filter.mp h3
    have hq := List.mem_range.mp h4
    have hpp := List.mem_range.mp h1
    unfold okB at h5
    rw [Bool.and_eq_true, beq_iff_eq, beq_iff_eq] at h5
    obtain ⟨c, c2, c3, c4⟩ := code_2 n (by omega) p hpp q (by omega) h5.2
    exact ⟨c, List.mem_range.mpr c2, by rw [c3, c4]; exact e⟩
  · rintro ⟨c, h1, e⟩
    have hc := List.mem_range.mp h1
    obtain ⟨l1, l2⟩ := pu_lt c n
    have h0 := code_1 n (by omega) c (by omega)
    refine ⟨puN c n, List.mem_range.mpr l1, List.mem_map.mpr ⟨skN c n &&& abN (stF n f s) n, List.mem_filter.mpr ⟨List.mem_range.mpr (Nat.lt_succ_of_le Nat.and_le_right), ?_⟩, ?_⟩⟩
    · unfold okB
      rw [Bool.and_eq_true, beq_iff_eq, beq_iff_eq, Nat.and_assoc, Nat.and_self, Nat.and_assoc, Nat.and_comm (abN _ _), ← Nat.and_assoc, h0, Nat.zero_and]
      exact ⟨rfl, rfl⟩
    · rw [← e]
      have hl : skN c n &&& abN (stF n f s) n < 8 := Nat.lt_of_le_of_lt Nat.and_le_left (by omega)
      refine nx_q (by omega) (fun i hi ha => ?_)
      rw [bp_8 hl (by omega), bp_8 (by omega) (by omega), Nat.testBit_and, (ab_bit n i hi).mpr ha, Bool.and_true]
theorem scC_vs {n : Nat} {f : Nat → Int32} (hM : MI n f) : ∀ x, VS n x → ∀ y, y ∈ scC n f x → VS n y := fun x hx y hy => by
  unfold scC scP at hy
  obtain ⟨p, -, h2⟩ := List.mem_flatMap.mp hy
  obtain ⟨q, -, e⟩ := List.mem_map.mp h2
  rw [← e]; exact nx_vs hM hx
/-! is it the end -/
abbrev dnzP (f : Nat → Int32) (i : Nat) : Prop := ¬ f (64 + i) < f (54 + i)
def enB (n : Nat) (f : Nat → Int32) (s : List Nat) : Bool := decide (∀ i, i < n → ¬ stF n f s (64 + i) < stF n f s (54 + i) ∨ (¬ stF n f s (64 + i) + nI 1 < stF n f s (54 + i) ∧ warmP (stF n f s) i))
theorem st2_d {n i : Nat} {g : Nat → Int32} {pl sk fi mr : Int32} (hM : MI n g) (hi : i < n) : (st2 n g pl sk fi mr i < g (54 + i) ↔ st1 g sk i < g (54 + i)) := by
  obtain ⟨a, ha, ea⟩ := st1_bd (sk := sk) hM hi
  obtain ⟨b, hb, eb⟩ := mi_lost hM
  obtain ⟨c, hc, ec⟩ := mi_need hM hi
  by_cases q : burP n g pl sk fi mr i
  · have q1 := q.1
    unfold st2; rw [if_pos q]
    refine ⟨fun _ => q1, fun _ => ?_⟩
    rw [ea, ec] at q1
    have := b_lt (by omega) (by omega) q1
    rw [ea, eb, ec]
    by_cases d : nI b < nI a
    · have := b_lt (by omega) (by omega) d
      rw [if_pos d, nI_sub (by omega)]; exact (nI_ltI (by omega) (by omega)).mpr (by omega)
    · rw [if_neg d]; exact (nI_ltI (by omega) (by omega)).mpr (by omega)
  · unfold st2; rw [if_neg q]
theorem en_1 {n p q : Nat} {f : Nat → Int32} {s : List Nat} (hM : MI n f) (hs : VS n s) (h : ∀ i, i < n → dnzP (goF n (stF n f s) (nI p) (nI q) (-1) (nI 0)) i) : enB n f s = true := by
  have hM2 := sf_mi hM hs
  have hn := hM.1
  refine decide_eq_true (fun i hi => ?_)
  have h1 := h i hi
  unfold dnzP at h1
  rw [goF_64 hn hi, goF_o hn (by omega) (by omega), st2_d hM2 hi] at h1
  unfold st1 at h1
  by_cases c : strP (stF n f s) (nI q) i
  · rw [if_pos c] at h1; exact Or.inr ⟨h1, c.2.2⟩
  · rw [if_neg c] at h1; exact Or.inl h1
theorem en_2 {n : Nat} {f : Nat → Int32} {s : List Nat} (hn3 : n ≤ 3) (hM : MI n f) (hs : VS n s) (h : enB n f s = true) : ∃ c, c < 3 ^ n ∧ ∀ i, i < n → dnzP (goF n (stF n f s) (nI (puN c n)) (nI (skN c n)) (-1) (nI 0)) i := by
  have hM2 := sf_mi hM hs
  have hn := hM.1
  have hab := ab_lt (g := stF n f s) n
  have hp := p38 hn3
  obtain ⟨c, c2, c3, c4⟩ := code_2 n (by omega) 0 (Nat.lt_of_le_of_lt (Nat.zero_le _) hab) (abN (stF n f s) n) hab (Nat.and_zero _)
  refine ⟨c, c2, fun i hi => ?_⟩
  have h1 := of_decide_eq_true h i hi
  unfold dnzP
  rw [c4, goF_64 hn hi, goF_o hn (by omega) (by omega), st2_d hM2 hi]
  unfold st1
  by_cases d : strP (stF n f s) (nI (abN (stF n f s) n)) i
  · rw [if_pos d]
    rcases h1 with h1 | h1
    · exact absurd d.2.1 h1
    · exact h1.1
  · rw [if_neg d]
    rcases h1 with h1 | h1
    · exact h1
    · exact fun q => d ⟨(bp_8 (by omega) (by omega)).mpr ((ab_bit n i hi).mpr ⟨q, h1.2⟩), q, h1.2⟩
theorem don_c {f : Nat → Int32} : ∀ k, ∃ c, c ≤ k ∧ donF f k = nI c ∧ (c = k ↔ ∀ i, i < k → dnzP f i)
  | 0 => ⟨0, Nat.le_refl _, rfl, ⟨fun _ i h => absurd h (Nat.not_lt_zero _), fun _ => rfl⟩⟩
  | k + 1 => by
    obtain ⟨c, h1, h2, h3⟩ := don_c (f := f) k
    by_cases q : f (64 + k) < f (54 + k)
    · refine ⟨c, by omega, ?_, ⟨fun e => by omega, fun h => absurd q (h k (Nat.lt_succ_self _))⟩⟩
      show donF f k + _ = _
      rw [if_pos q, h2, ← add_n0]
    · refine ⟨c + 1, by omega, ?_, ⟨fun e i hi => ?_, fun h => by rw [h3.mpr (fun i hi => h i (by omega))]⟩⟩
      · show donF f k + _ = _
        rw [if_neg q, h2, nI_add]
      · by_cases d : i = k
        · rw [d]; exact q
        · exact h3.mp (by omega) i (by omega)
theorem don_y {n : Nat} {f : Nat → Int32} {z : Int32} (hn : n ≤ 10) (e : z = donF f n) : (z = nI n ↔ ∀ i, i < n → dnzP f i) := by
  obtain ⟨c, h1, h2, h3⟩ := don_c (f := f) n
  rw [e, h2]
  exact ⟨fun q => h3.mp (b_eq (by omega) (by omega) q), fun q => by rw [h3.mpr q]⟩
/-- where it begins -/
def mnF (f : Nat → Int32) (i : Nat) : Int32 := if f (64 + i) < f (54 + i) then f (64 + i) else f (54 + i)
def p0F (n : Nat) (f : Nat → Int32) : Nat → Int32 := fun j => if 64 ≤ j ∧ j < 64 + n then mnF f (j - 64) else f j
def prS (n : Nat) (f : Nat → Int32) : List Nat := rdF n (p0F n f)
theorem p0_24 {n i : Nat} {f : Nat → Int32} (hn : n ≤ 10) (hi : i < n) : p0F n f (24 + i) = f (24 + i) := by unfold p0F; rw [if_neg (by omega)]
theorem p0_64 {n i : Nat} {f : Nat → Int32} (hi : i < n) : p0F n f (64 + i) = mnF f i := by unfold p0F; rw [if_pos (by omega), show 64 + i - 64 = i by omega]
theorem mn_bd {n i : Nat} {f : Nat → Int32} (hM : MI n f) (hi : i < n) : bd (mnF f i) 32 := by
  unfold mnF; split
  · exact mi_has hM hi
  · exact bd_le (mi_need hM hi) (by decide)
theorem pr_vs {n : Nat} {f : Nat → Int32} (hM : MI n f) : VS n (prS n f) := rd_vs (fun i hi => ⟨by rw [p0_24 hM.1 hi]; exact mi_heat hM hi, by rw [p0_64 hi]; exact mn_bd hM hi⟩)
/-- SOONEST -/
def sooA (n : Nat) (f : Nat → Int32) : Int32 := if n ≤ 3 then (if donF f n = nI n then nI 0 else bfs (scR n f) (enB n f) 3001 1 [prS n f] 0) else -4
theorem soo_4 {n : Nat} {f : Nat → Int32} (h : ¬ n ≤ 3) : -4 = sooA n f := by unfold sooA; rw [if_neg h]
theorem soo_0 {n : Nat} {f : Nat → Int32} (h : n ≤ 3) (e : donF f n = nI n) : nI 0 = sooA n f := by unfold sooA; rw [if_pos h, if_pos e]
theorem soo_R {n : Nat} {f : Nat → Int32} {z : Int32} (h : n ≤ 3) (e : ¬ donF f n = nI n) (hz : z = bfs (scR n f) (enB n f) 3001 1 [prS n f] 0) : z = sooA n f := by unfold sooA; rw [if_pos h, if_neg e]; exact hz
theorem soo_C {n : Nat} {f : Nat → Int32} {z : Int32} (h : n ≤ 3) (hM : MI n f) (e : ¬ donF f n = nI n) (hz : z = bfs (scC n f) (enB n f) 3001 1 [prS n f] 0) : z = sooA n f := by
  refine soo_R h e (hz.trans ?_)
  have hnd : [prS n f].Nodup := List.nodup_cons.mpr ⟨List.not_mem_nil, List.nodup_nil⟩
  exact bfs_eq (P := VS n) (scC_vs hM) (fun x _ y => soc_eq h y) 3001 1 _ _ 0 hnd hnd rfl (by show 1 ≤ 3001; decide) (fun x hx => by rw [List.mem_singleton.mp hx]; exact pr_vs hM) (fun _ => Iff.rfl) (fun _ => Iff.rfl)
/-! rows for the walks -/
def hsC (v : Int64) : Nat := (((v * (-7046029254386353131)).toUInt64 >>> ((nI 51).toInt64.toUInt64 &&& Int64.toUInt64 63)).toInt64.toInt32).toNatClampNeg
theorem hsC_eq (v : Int64) : ((v * (-7046029254386353131)).toUInt64 >>> ((nI 51).toInt64.toUInt64 &&& Int64.toUInt64 63)).toInt64.toInt32 = nI (hsC v) ∧ hsC v < 8192 := by
  obtain ⟨j, hj, e⟩ := hash_bd (v * (-7046029254386353131))
  have h : hsC v = j := by unfold hsC; rw [e, nI_clamp (by omega)]
  exact ⟨by rw [h]; exact e, by rw [h]; exact hj⟩
def hsR (v : Int64) : Nat := v.toInt.toNat % 8191
theorem hsR_eq {s : List Nat} (h : cdR s < 549755813888) : cdR s % 8191 = hsR (cR s) := by
  unfold hsR cR
  rw [Int64.toInt_ofNat_of_lt (by omega)]; rfl
theorem inz_0 (x : List Nat) : inz [] x = [x] := inz_n List.not_mem_nil (by decide)
/-- changes of HEATS that are weighed -/
def CHW (n : Nat) (f g : Nat → Int32) (P I : Nat) : Prop := ∀ p i, (p < P ∨ (p = P ∧ i < I)) → i < n → g (3 * p + i) = bsF f (nI p) i n - f (14 + i)
theorem chw_0 {n : Nat} {f g : Nat → Int32} : CHW n f g 0 0 := fun p i h _ => by omega
theorem chw_s {n P I : Nat} {f g : Nat → Int32} {v : Int32} (h : CHW n f g P I) (hn : n ≤ 3) (hI : I < n) (e : v = bsF f (nI P) I n - f (14 + I)) : CHW n f (upd g (3 * P + I) v) P (I + 1) := fun p i hp hi => by
  by_cases c : p = P ∧ i = I
  · rw [c.1, c.2, up_same]; exact e
  · rw [up_other (by omega)]; exact h p i (by omega) hi
theorem chw_p {n P I : Nat} {f g : Nat → Int32} (h : CHW n f g P I) (hI : n ≤ I) : CHW n f g (P + 1) 0 := fun p i hp hi => h p i (by omega) hi
theorem bz_y {f : Nat → Int32} {pl : Int32} {i k : Nat} (h1 : bitP pl k) (h2 : f (84 + k) = nI i) : bsF f pl i k + f (4 + k) = bsF f pl i (k + 1) := by
  show _ = bsF f pl i k + (if bitP pl k ∧ f (84 + k) = nI i then f (4 + k) else nI 0)
  rw [if_pos ⟨h1, h2⟩]
theorem bz_n {f : Nat → Int32} {pl : Int32} {i k : Nat} (h : ¬ (bitP pl k ∧ f (84 + k) = nI i)) : bsF f pl i k = bsF f pl i (k + 1) := by
  show _ = bsF f pl i k + (if bitP pl k ∧ f (84 + k) = nI i then f (4 + k) else nI 0)
  rw [if_neg h]; exact add_n0 _
theorem cz_0 (g : Nat → Int32) : (nI 0).toInt64 = cC (rdF 0 g) := by show (nI 0).toInt64 = Int64.ofNat 0; decide +kernel
theorem rd_or {k m : Nat} {g : Nat → Int32} {x : Int64} (hx : x = cC (rdF k g)) (hv : VS k (rdF k g)) (hm : m = xcF g k) : x ||| Int64.ofNat (8192 ^ k * m) = cC (rdF (k + 1) g) := by
  rw [hx, hm, rd_s]; exact pa_or hv
theorem p0_vs {n k : Nat} {f : Nat → Int32} (hM : MI n f) (hk : k ≤ n) : VS k (rdF k (p0F n f)) := rd_vs (fun i hi => ⟨by rw [p0_24 hM.1 (by omega)]; exact mi_heat hM (by omega), by rw [p0_64 (by omega)]; exact mn_bd hM (by omega)⟩)
theorem mn_eq {f : Nat → Int32} {i b c : Nat} (eb : f (64 + i) = nI b) (ec : f (54 + i) = nI c) (hb : b < 100) (hc : c < 100) : mnF f i = nI (min b c) := by
  unfold mnF; rw [eb, ec]
  by_cases h : b < c
  · rw [if_pos ((nI_ltI (by omega) (by omega)).mpr h), Nat.min_eq_left (by omega)]
  · rw [if_neg (fun q => h (b_lt (by omega) (by omega) q)), Nat.min_eq_right (by omega)]
theorem p0_xc {n i a b c : Nat} {f : Nat → Int32} (hn : n ≤ 10) (hi : i < n) (ea : f (24 + i) = nI a) (eb : f (64 + i) = nI b) (ec : f (54 + i) = nI c) (ha : a < 256) (hb : b < 32) (hc : c < 21) : 32 * a + min b c = xcF (p0F n f) i :=
  (xc_eq ((p0_24 hn hi).trans ea) ((p0_64 hi).trans (mn_eq eb ec (by omega) (by omega))) ha (by omega)).symm
/-- a STATE taken apart -/
def UN (n : Nat) (s : List Nat) (h t : Nat → Int32) : Prop := ∀ i, i < n → h i = nI (s.getD i 0 / 32) ∧ t i = nI (s.getD i 0 % 32)
theorem un_s {n k : Nat} {s : List Nat} {v : Int64} {h t : Nat → Int32} {x y : Int32} (hu : UN k s h t) (hs : VS n s) (hn : n ≤ 3) (hk : k < n) (ev : v = cC s) (ex : x = ptC v k &&& nI 31) (ey : y = (ptC v k >>> (nI 5 &&& 31)) &&& nI 255) : UN (k + 1) s (upd h k y) (upd t k x) := fun i hi => by
  have q := un_at hs hn hk ev
  by_cases c : i = k
  · rw [c, up_same, up_same, ex, ey]; exact ⟨q.2, q.1⟩
  · rw [up_other c, up_other c]; exact hu i (by omega)
theorem ab_y {n j : Nat} {f c d : Nat → Int32} {s : List Nat} {a4 a5 a6 : Int32} (hn : n ≤ 10) (hj : j < n) (hu : UN n s c d) (e4 : a4 = f (34 + j)) (e5 : a5 = f (44 + j)) (e6 : a6 = f (54 + j)) (c1 : ¬ a6 ≤ d j) (c2 : ¬ c j < a4) (c3 : ¬ a5 < c j) : abP (stF n f s) j := by
  unfold abP warmP
  rw [sf_64 hn hj, sf_24 hj, sf_o hn (by omega), sf_o hn (by omega), sf_o hn (by omega), ← (hu j hj).2, ← (hu j hj).1, ← e4, ← e5, ← e6]
  exact ⟨Int32.not_le.mp c1, c2, c3⟩
theorem ab_n1 {n j : Nat} {f c d : Nat → Int32} {s : List Nat} {a6 : Int32} (hn : n ≤ 10) (hj : j < n) (hu : UN n s c d) (e6 : a6 = f (54 + j)) (c1 : a6 ≤ d j) : ¬ abP (stF n f s) j := by
  unfold abP
  rw [sf_64 hn hj, sf_o hn (by omega : 54 + j < 24 ∨ (34 ≤ 54 + j ∧ 54 + j < 64) ∨ 74 ≤ 54 + j), ← (hu j hj).2, ← e6]
  exact fun q => absurd q.1 (Int32.not_lt.mpr c1)
theorem ab_n2 {n j : Nat} {f c d : Nat → Int32} {s : List Nat} {a4 a5 : Int32} (hn : n ≤ 10) (hj : j < n) (hu : UN n s c d) (e4 : a4 = f (34 + j)) (e5 : a5 = f (44 + j)) (h : c j < a4 ∨ a5 < c j) : ¬ abP (stF n f s) j := by
  unfold abP warmP
  rw [sf_24 hj, sf_o hn (by omega : 34 + j < 24 ∨ (34 ≤ 34 + j ∧ 34 + j < 64) ∨ 74 ≤ 34 + j), sf_o hn (by omega : 44 + j < 24 ∨ (34 ≤ 44 + j ∧ 44 + j < 64) ∨ 74 ≤ 44 + j), ← (hu j hj).1, ← e4, ← e5]
  exact fun q => h.elim q.2.1 q.2.2
/-- nothing is wanting for i -/
def enP (n : Nat) (f : Nat → Int32) (s : List Nat) (i : Nat) : Prop := ¬ stF n f s (64 + i) < stF n f s (54 + i) ∨ (¬ stF n f s (64 + i) + nI 1 < stF n f s (54 + i) ∧ warmP (stF n f s) i)
theorem sf_54 {n i : Nat} {f : Nat → Int32} {s : List Nat} (hn : n ≤ 10) (hi : i < n) : stF n f s (54 + i) = f (54 + i) := sf_o hn (by omega)
theorem en_l {n i : Nat} {f c d : Nat → Int32} {s : List Nat} {a6 : Int32} (hn : n ≤ 10) (hi : i < n) (hu : UN n s c d) (e6 : a6 = f (54 + i)) (c1 : ¬ d i < a6) : enP n f s i := by
  unfold enP; rw [sf_64 hn hi, sf_54 hn hi, ← (hu i hi).2, ← e6]; exact Or.inl c1
theorem en_r {n i : Nat} {f c d : Nat → Int32} {s : List Nat} {a6 : Int32} (hn : n ≤ 10) (hi : i < n) (hu : UN n s c d) (e6 : a6 = f (54 + i)) (c1 : ¬ d i + nI 1 < a6) (h : abP (stF n f s) i) : enP n f s i := by
  unfold enP; rw [sf_64 hn hi, sf_54 hn hi, ← (hu i hi).2, ← e6]; exact Or.inr ⟨c1, h.2⟩
theorem en_n1 {n i : Nat} {f c d : Nat → Int32} {s : List Nat} {a6 : Int32} (hn : n ≤ 10) (hi : i < n) (hu : UN n s c d) (e6 : a6 = f (54 + i)) (c1 : d i < a6) (c2 : d i + nI 1 < a6) : ¬ enB n f s = true := fun q => by
  have h : enP n f s i := of_decide_eq_true q i hi
  unfold enP at h; rw [sf_64 hn hi, sf_54 hn hi, ← (hu i hi).2, ← e6] at h
  exact h.elim (fun r => r c1) (fun r => r.1 c2)
theorem en_n2 {n i : Nat} {f c d : Nat → Int32} {s : List Nat} {a6 : Int32} (hn : n ≤ 10) (hi : i < n) (hu : UN n s c d) (e6 : a6 = f (54 + i)) (c1 : d i < a6) (c2 : ¬ abP (stF n f s) i) : ¬ enB n f s = true := fun q => by
  have h : enP n f s i := of_decide_eq_true q i hi
  have h1 : stF n f s (64 + i) < stF n f s (54 + i) := by rw [sf_64 hn hi, sf_54 hn hi, ← (hu i hi).2, ← e6]; exact c1
  exact h.elim (fun r => r h1) (fun r => c2 ⟨h1, r.2⟩)
theorem en_y {n k : Nat} {f : Nat → Int32} {s : List Nat} (h : ∀ i, i < k → enP n f s i) (hk : n ≤ k) : enB n f s = true := decide_eq_true (fun i hi => h i (by omega))
/-! strokes behind a MINUTE, as the class tells them -/
theorem bq_y {n i : Nat} {f c d : Nat → Int32} {s : List Nat} {sk : Int32} (hn : n ≤ 10) (hi : i < n) (hu : UN n s c d) (hb : bitP sk i) (ha : abP (stF n f s) i) : d i + nI 1 = st1 (stF n f s) sk i := by
  unfold st1; rw [if_pos (show strP (stF n f s) sk i from ⟨hb, ha⟩), sf_64 hn hi, (hu i hi).2]
theorem bq_n {n i : Nat} {f c d : Nat → Int32} {s : List Nat} {sk : Int32} (hn : n ≤ 10) (hi : i < n) (hu : UN n s c d) (hb : ¬ bitP sk i) : d i = st1 (stF n f s) sk i := by
  unfold st1; rw [if_neg (show ¬ strP (stF n f s) sk i from fun q => hb q.1), sf_64 hn hi, (hu i hi).2]
theorem b2_a {n i : Nat} {f : Nat → Int32} {s : List Nat} {pl sk fi mr x a6 : Int32} (hn : n ≤ 10) (hi : i < n) (e : x = st1 (stF n f s) sk i) (e6 : a6 = f (54 + i)) (c : a6 ≤ x) : x = st2 n (stF n f s) pl sk fi mr i := by
  unfold st2
  rw [if_neg (fun q => by have q1 := q.1; rw [← e, sf_54 hn hi, ← e6] at q1; exact absurd q1 (Int32.not_lt.mpr c))]; exact e
theorem b2_b {n i : Nat} {f : Nat → Int32} {s : List Nat} {pl sk fi mr x h a5 : Int32} (hn : n ≤ 10) (hi : i < n) (e : x = st1 (stF n f s) sk i) (e5 : a5 = f (44 + i)) (eh : h = hNw n (stF n f s) pl fi mr i) (c : h ≤ a5) : x = st2 n (stF n f s) pl sk fi mr i := by
  unfold st2
  rw [if_neg (fun q => by have q1 := q.2.2; rw [← eh, sf_o hn (by omega), ← e5] at q1; exact absurd q1 (Int32.not_lt.mpr c))]; exact e
theorem b2_c {n i : Nat} {f : Nat → Int32} {s : List Nat} {pl sk fi mr x h a5 a6 lo : Int32} (hM : MI n f) (hs : VS n s) (hi : i < n) (e : x = st1 (stF n f s) sk i) (e6 : a6 = f (54 + i)) (e5 : a5 = f (44 + i)) (eh : h = hNw n (stF n f s) pl fi mr i) (el : lo = f 2) (c1 : ¬ a6 ≤ x) (c2 : ¬ h ≤ a5) : mx0 (x - lo) = st2 n (stF n f s) pl sk fi mr i := by
  have hn := hM.1
  have hM2 := sf_mi hM hs
  have e2 : stF n f s 2 = f 2 := sf_o hn (by omega)
  rw [e, el, ← e2, mx_eq (st1_bd hM2 hi) (mi_lost hM2)]
  unfold st2
  by_cases z : st1 (stF n f s) sk i = 0
  · obtain ⟨b, hb, eb⟩ := mi_lost hM2
    rw [if_neg (show ¬ burP n (stF n f s) pl sk fi mr i from fun q => q.2.1 z), z, eb, if_neg (nI_pos (by omega))]
    exact z_dec
  · rw [if_pos (show burP n (stF n f s) pl sk fi mr i from ⟨by rw [← e, sf_54 hn hi, ← e6]; exact Int32.not_le.mp c1, z, by rw [← eh, sf_o hn (by omega), ← e5]; exact Int32.not_le.mp c2⟩)]
theorem s2_bd {n i : Nat} {f : Nat → Int32} {s : List Nat} {pl sk fi mr : Int32} (hM : MI n f) (hs : VS n s) (hi : i < n) : bd (st2 n (stF n f s) pl sk fi mr i) 32 := by
  have h := MI_go (pl := pl) (sk := sk) (fi := fi) (mr := mr) (sf_mi hM hs)
  rw [← goF_64 hM.1 hi]; exact mi_has h hi
theorem go_vs {n k : Nat} {f : Nat → Int32} {s : List Nat} {pl sk fi mr : Int32} (hM : MI n f) (hs : VS n s) (hk : k ≤ n) : VS k (rdF k (goF n (stF n f s) pl sk fi mr)) := by
  have h := MI_go (pl := pl) (sk := sk) (fi := fi) (mr := mr) (sf_mi hM hs)
  exact rd_vs (fun i hi => ⟨mi_heat h (by omega), mi_has h (by omega)⟩)
theorem go_xc {n i a b : Nat} {f : Nat → Int32} {s : List Nat} {pl sk fi mr x y : Int32} (hn : n ≤ 10) (hi : i < n) (e1 : x = hNw n (stF n f s) pl fi mr i) (e2 : y = st2 n (stF n f s) pl sk fi mr i) (ex : x = nI a) (ey : y = nI b) (ha : a < 256) (hb : b < 32) : 32 * a + b = xcF (goF n (stF n f s) pl sk fi mr) i :=
  (xc_eq ((goF_24 hn hi).trans (e1.symm.trans ex)) ((goF_64 hn hi).trans (e2.symm.trans ey)) ha hb).symm
/-! all that can be, as the class goes through it -/
theorem ab_1 {g : Nat → Int32} {k : Nat} (h : abP g k) : abN g k + 2 ^ k = abN g (k + 1) := by show _ = abN g k + (if abP g k then 2 ^ k else 0); rw [if_pos h]
theorem ab_0 {g : Nat → Int32} {k : Nat} (h : ¬ abP g k) : abN g k = abN g (k + 1) := by show _ = abN g k + (if abP g k then 2 ^ k else 0); rw [if_neg h]; rfl
theorem or_8 {a k : Nat} (hk : k < 3) (ha : a < 2 ^ k) : nI a ||| nI (2 ^ k) = nI (a + 2 ^ k) := by
  have H : ∀ k, k < 3 → ∀ a, a < 2 ^ k → nI a ||| nI (2 ^ k) = nI (a + 2 ^ k) := by decide +kernel
  exact H k hk a ha
theorem or_80 (a : Nat) : nI a ||| nI 0 = nI a := Int32.or_zero
theorem bs_sf {n i : Nat} {f : Nat → Int32} {s : List Nat} {pl : Int32} (hn : n ≤ 10) : bsF (stF n f s) pl i n = bsF f pl i n := bsF_ext (fun k hk => sf_o hn (by omega)) (fun k hk => sf_o hn (by omega)) n (Nat.le_refl _)
theorem gh_eq {n p i P : Nat} {f c d e6 : Nat → Int32} {s : List Nat} {z : Int32} (hn : n ≤ 10) (hi : i < n) (hu : UN n s c d) (hc : CHW n f e6 P 0) (hp : p < P) (e : z = ibf (c i + e6 (3 * p + i))) : z = hNw n (stF n f s) (nI p) (-1) (nI 0) i := by
  rw [e, hc p i (Or.inl hp) hi, (hu i hi).1]
  unfold hNw
  rw [sf_24 hi, sf_o hn (by omega), bs_sf hn, ite_self, ← add_n0, Int32.sub_eq_add_neg, Int32.sub_eq_add_neg, Int32.add_comm (bsF f (nI p) i n), ← Int32.add_assoc]
theorem ok_i {a p q : Nat} (ha : a < 8) (hp : p < 8) (hq : q < 8) : ((nI q &&& (nI a ^^^ (-1)) = 0 ∧ nI q &&& nI p = 0) ↔ okB a p q = true) := by
  have H : ∀ a, a < 8 → ∀ p, p < 8 → ∀ q, q < 8 → ((nI q &&& (nI a ^^^ (-1)) = 0 ∧ nI q &&& nI p = 0) ↔ okB a p q = true) := by decide +kernel
  exact H a ha p hp q hq
theorem ok_sub {n a p q : Nat} {g : Nat → Int32} (hn : n ≤ 3) (ea : a = abN g n) (hq : q < 8) (h : okB a p q = true) : ∀ i, i < n → bitP (nI q) i → abP g i := fun i hi hb => by
  unfold okB at h
  rw [Bool.and_eq_true, beq_iff_eq, beq_iff_eq] at h
  have h1 := (bp_8 hq (by omega)).mp hb
  rw [← h.1, Nat.testBit_and, Bool.and_eq_true] at h1
  rw [ea] at h1
  exact (ab_bit n i hi).mp h1.2
theorem hh_0 {n p sm : Nat} {f : Nat → Int32} {s : List Nat} {V A : List (List Nat)} {c : List Nat → Int64} {hs : Int64 → Nat} {f1 : Nat → Int64} {f2 : Nat → Int32} (h : HT (VS n) c hs (inA V A) sm f1 f2) : HT (VS n) c hs (inA V (A ++ scS n f s p 0)) sm f1 f2 := by
  rw [show scS n f s p 0 = [] from rfl, List.append_nil]; exact h
theorem hh_y {n p k a sm : Nat} {f : Nat → Int32} {s : List Nat} {V A : List (List Nat)} {c : List Nat → Int64} {hs : Int64 → Nat} {f1 : Nat → Int64} {f2 : Nat → Int32} (ea : a = abN (stF n f s) n) (ok : okB a p k = true) (h : HT (VS n) c hs (inz (inA V (A ++ scS n f s p k)) (nx n f s p k)) sm f1 f2) : HT (VS n) c hs (inA V (A ++ scS n f s p (k + 1))) sm f1 f2 := by
  rw [scS_y (by rw [← ea]; exact ok), ← List.append_assoc, inA_s]; exact h
theorem hh_n {n p k a sm : Nat} {f : Nat → Int32} {s : List Nat} {V A : List (List Nat)} {c : List Nat → Int64} {hs : Int64 → Nat} {f1 : Nat → Int64} {f2 : Nat → Int32} (ea : a = abN (stF n f s) n) (ok : ¬ okB a p k = true) (h : HT (VS n) c hs (inA V (A ++ scS n f s p k)) sm f1 f2) : HT (VS n) c hs (inA V (A ++ scS n f s p (k + 1))) sm f1 f2 := by
  rw [scS_n (by rw [← ea]; exact ok)]; exact h
theorem hh_p {n p k a sm : Nat} {f : Nat → Int32} {s : List Nat} {V : List (List Nat)} {c : List Nat → Int64} {hs : Int64 → Nat} {f1 : Nat → Int64} {f2 : Nat → Int32} (ea : a = abN (stF n f s) n) (hk : k = a + 1) (h : HT (VS n) c hs (inA V (scP n f s p ++ scS n f s p k)) sm f1 f2) : HT (VS n) c hs (inA V (scP n f s (p + 1))) sm f1 f2 := by
  rw [scP_s, ← ea, ← hk]; exact h
/-! a level -/
theorem fm_1 {sc : List Nat → List (List Nat)} {L : List (List Nat)} {x : List Nat} : (L ++ [x]).flatMap sc = L.flatMap sc ++ sc x := by rw [List.flatMap_append, List.flatMap_singleton]
theorem hv_0 {n a sm : Nat} {V : List (List Nat)} {sc : List Nat → List (List Nat)} {c : List Nat → Int64} {hs : Int64 → Nat} {f1 : Nat → Int64} {f2 : Nat → Int32} (h : HT (VS n) c hs V sm f1 f2) : HT (VS n) c hs (inA V ((lvT V a a).flatMap sc)) sm f1 f2 := by rw [lvz_z]; exact h
theorem hv_s {n a b sm mt : Nat} {V : List (List Nat)} {sc : List Nat → List (List Nat)} {c : List Nat → Int64} {hs : Int64 → Nat} {f1 sa : Nat → Int64} {f2 sb : Nat → Int32} (hV : HT (VS n) c hs V mt sa sb) (hab : a ≤ b) (hb : b < mt) (h : HT (VS n) c hs (inA (inA V ((lvT V a b).flatMap sc)) (sc (V.getD b []))) sm f1 f2) : HT (VS n) c hs (inA V ((lvT V a (b + 1)).flatMap sc)) sm f1 f2 := by
  rw [lvz_s hab (by rw [hV.1]; exact hb), fm_1, inA_app]; exact h
theorem hv_e {n a b sm mt : Nat} {V : List (List Nat)} {sc : List Nat → List (List Nat)} {c : List Nat → Int64} {hs : Int64 → Nat} {f1 sa : Nat → Int64} {f2 sb : Nat → Int32} (hV : HT (VS n) c hs V mt sa sb) (hb : b = mt) (h : HT (VS n) c hs (inA V ((lvT V a b).flatMap sc)) sm f1 f2) : HT (VS n) c hs (inA V ((V.drop a).flatMap sc)) sm f1 f2 := by
  rw [lvz_e (hb.trans hV.1.symm)] at h; exact h
theorem hv_k {n k mt mu : Nat} {V xs : List (List Nat)} {c : List Nat → Int64} {hs : Int64 → Nat} {sa s3 : Nat → Int64} {sb b3 : Nat → Int32} (hV : HT (VS n) c hs V mt sa sb) (h : HT (VS n) c hs (inA V xs) mu s3 b3) (hk : k < mt) : s3 k = c (V.getD k []) := by
  have hl := inA_len xs V
  rw [h.1, hV.1] at hl
  rw [(ht_r h (by omega)).1, inA_gd (by rw [hV.1]; exact hk)]
theorem hv_l {n mt mu : Nat} {V xs : List (List Nat)} {c : List Nat → Int64} {hs : Int64 → Nat} {sa s3 : Nat → Int64} {sb b3 : Nat → Int32} (hV : HT (VS n) c hs V mt sa sb) (h : HT (VS n) c hs (inA V xs) mu s3 b3) : mt ≤ mu := by
  have hl := inA_len xs V
  rw [h.1, hV.1] at hl; exact hl
theorem hv_m {n a b mt mu : Nat} {V : List (List Nat)} {sc : List Nat → List (List Nat)} {c : List Nat → Int64} {hs : Int64 → Nat} {sa s3 : Nat → Int64} {sb b3 : Nat → Int32} (hV : HT (VS n) c hs V mt sa sb) (h : HT (VS n) c hs (inA V ((lvT V a b).flatMap sc)) mu s3 b3) (hm : 3000 < mu) : (inA V ((V.drop a).flatMap sc)).length = 3001 := by
  have h1 := h.2.1
  have e : lvT V a b = (V.drop a).take (b - a) := by unfold lvT; rw [List.drop_take]
  have e2 : V.drop a = lvT V a b ++ (V.drop a).drop (b - a) := by rw [e, List.take_append_drop]
  have h3 := inA_le ((V.drop a).flatMap sc) (V := V) (by rw [hV.1]; exact hV.2.1)
  have h4 : mu ≤ (inA V ((V.drop a).flatMap sc)).length := by
    rw [e2, List.flatMap_append, inA_app, ← h.1]; exact inA_len _ _
  omega
/-- none of the first ones of a level is the last -/
def anyN (en : List Nat → Bool) (V : List (List Nat)) (a b : Nat) : Prop := ¬ (lvT V a b).any en = true
theorem an_0 {en : List Nat → Bool} {V : List (List Nat)} {a : Nat} : anyN en V a a := by unfold anyN; rw [lvz_z]; exact fun q => (by cases q)
theorem an_s {en : List Nat → Bool} {V : List (List Nat)} {a b : Nat} (h : anyN en V a b) (hab : a ≤ b) (hb : b < V.length) (he : ¬ en (V.getD b []) = true) : anyN en V a (b + 1) := by
  unfold anyN at h ⊢
  rw [lvz_s hab hb, List.any_append, Bool.or_eq_true]
  rintro (q | q)
  · exact h q
  · rw [List.any_cons, List.any_nil, Bool.or_false] at q; exact he q
theorem an_e {en : List Nat → Bool} {V : List (List Nat)} {a b : Nat} (h : anyN en V a b) (hb : b = V.length) : ¬ (V.drop a).any en = true := by unfold anyN at h; rw [lvz_e hb] at h; exact h
theorem bf_e {sc : List Nat → List (List Nat)} {en : List Nat → Bool} {F m a k : Nat} {V : List (List Nat)} {Z : Int32} (hb : Z = bfs sc en F m V a) (hF : 1 ≤ F) (ha : a ≤ k) (hk : k < V.length) (he : en (V.getD k []) = true) : nI m = Z := by
  rw [hb, show F = (F - 1) + 1 by omega]
  show nI m = if (V.drop a).any en = true then nI m else _
  rw [if_pos]
  refine List.any_eq_true.mpr ⟨V.getD k [], ?_, he⟩
  rw [List.getD_eq_getElem?_getD, List.getElem?_eq_getElem hk]
  refine List.mem_iff_getElem.mpr ⟨k - a, by rw [List.length_drop]; omega, ?_⟩
  rw [List.getElem_drop]
  show V[a + (k - a)] = V[k]
  congr 1; omega
theorem bf_u {sc : List Nat → List (List Nat)} {en : List Nat → Bool} {F m a : Nat} {V : List (List Nat)} (hF : 1 ≤ F) (ha : ¬ (V.drop a).any en = true) : bfs sc en F m V a = if (inA V ((V.drop a).flatMap sc)).length = 3001 then -4 else if (inA V ((V.drop a).flatMap sc)).length = V.length then -1 else bfs sc en (F - 1) (m + 1) (inA V ((V.drop a).flatMap sc)) V.length := by
  rw [show F = (F - 1) + 1 by omega]
  show (if (V.drop a).any en = true then nI m else _) = _
  rw [if_neg ha]; rfl
theorem bf_4 {sc : List Nat → List (List Nat)} {en : List Nat → Bool} {F m a : Nat} {V : List (List Nat)} {Z : Int32} (hb : Z = bfs sc en F m V a) (hF : 1 ≤ F) (ha : ¬ (V.drop a).any en = true) (hl : (inA V ((V.drop a).flatMap sc)).length = 3001) : -4 = Z := by
  rw [hb, bf_u hF ha, if_pos hl]
theorem bf_1 {sc : List Nat → List (List Nat)} {en : List Nat → Bool} {n F m a mt mu : Nat} {V : List (List Nat)} {Z : Int32} {c : List Nat → Int64} {hs : Int64 → Nat} {sa s3 : Nat → Int64} {sb b3 : Nat → Int32} (hb : Z = bfs sc en F m V a) (hF : 1 ≤ F) (ha : ¬ (V.drop a).any en = true) (hV : HT (VS n) c hs V mt sa sb) (h : HT (VS n) c hs (inA V ((V.drop a).flatMap sc)) mu s3 b3) (hm : mu ≤ 3000) (e : mu = mt) : -1 = Z := by
  rw [hb, bf_u hF ha, h.1, hV.1, if_neg (by omega), if_pos e]
theorem bf_s {sc : List Nat → List (List Nat)} {en : List Nat → Bool} {n F G m a mt mu : Nat} {V : List (List Nat)} {Z : Int32} {c : List Nat → Int64} {hs : Int64 → Nat} {sa s3 : Nat → Int64} {sb b3 : Nat → Int32} (hb : Z = bfs sc en F m V a) (hF : 1 ≤ F) (hG : G = F - 1) (ha : ¬ (V.drop a).any en = true) (hV : HT (VS n) c hs V mt sa sb) (h : HT (VS n) c hs (inA V ((V.drop a).flatMap sc)) mu s3 b3) (hm : mu ≤ 3000) (e : ¬ mu = mt) : Z = bfs sc en G (m + 1) (inA V ((V.drop a).flatMap sc)) mt := by
  rw [hb, bf_u hF ha, h.1, hV.1, if_neg (by omega), if_neg e, hG]
/-! the reference's -/
theorem st_r {k a b sv : Nat} {g : Nat → Int32} (h : sv = cdR (rdF k g)) (ea : g (24 + k) = nI a) (eb : g (64 + k) = nI b) (ha : a < 256) (hb : b < 32) : 8192 * sv + 32 * a + b = cdR (rdF (k + 1) g) := by
  rw [rd_s, cdR_s, xc_eq ea eb ha hb, h]; omega
theorem bk {kd vq n : Nat} {s : List Nat} (hv : vq = cdR (s.take kd)) (h1 : 1 ≤ kd) (hs : VS n s) (hk : kd ≤ n) : vq % 8192 / 32 = s.getD (kd - 1) 0 / 32 ∧ vq % 32 = s.getD (kd - 1) 0 % 32 ∧ vq / 8192 = cdR (s.take (kd - 1)) := by
  have e := cdR_tk (k := kd - 1) (s := s) (by rw [hs.1]; omega)
  have hx := gd_lt hs (show kd - 1 < n by omega)
  rw [show kd - 1 + 1 = kd by omega, ← hv] at e
  omega
theorem ag_u {f g : Nat → Int32} {j : Nat} {x : Int32} (h : AG f g) (hj : (24 ≤ j ∧ j < 34) ∨ (64 ≤ j ∧ j < 84)) : AG f (upd g j x) := fun i h1 h2 h3 => by rw [up_other (by omega)]; exact h i h1 h2 h3
theorem ag_up {f g g1 g2 : Nat → Int32} {i j : Nat} {x y : Int32} (h : AG f g) (e1 : g1 = upd g i x) (e2 : g2 = upd g1 j y) (hi : 24 ≤ i ∧ i < 34) (hj : 64 ≤ j ∧ j < 74) : AG f g2 := by
  rw [e2, e1]; exact ag_u (ag_u h (Or.inl hi)) (Or.inr ⟨hj.1, by omega⟩)
/-- the last ones of a STATE are there -/
def GT (n : Nat) (s : List Nat) (kd : Nat) (g : Nat → Int32) : Prop := ∀ i, kd ≤ i → i < n → g (24 + i) = nI (s.getD i 0 / 32) ∧ g (64 + i) = nI (s.getD i 0 % 32)
theorem gt_0 {n : Nat} {s : List Nat} {g : Nat → Int32} : GT n s n g := fun i h1 h2 => by omega
theorem gt_s {n kd a b : Nat} {s : List Nat} {g g1 g2 : Nat → Int32} (h : GT n s kd g) (hn : n ≤ 10) (h1 : 1 ≤ kd) (hk : kd ≤ n) (e1 : g1 = upd g (24 + (kd - 1)) (nI a)) (e2 : g2 = upd g1 (64 + (kd - 1)) (nI b)) (ea : a = s.getD (kd - 1) 0 / 32) (eb : b = s.getD (kd - 1) 0 % 32) : GT n s (kd - 1) g2 := fun i h3 h4 => by
  by_cases c : i = kd - 1
  · rw [c, e2, up_other (by omega), e1, up_same, up_same, ea, eb]; exact ⟨rfl, rfl⟩
  · rw [e2, e1, up_other (by omega), up_other (by omega), up_other (by omega), up_other (by omega)]; exact h i (by omega) h4
theorem gt_e {n kd : Nat} {s : List Nat} {g : Nat → Int32} (h : GT n s kd g) (hk : kd = 0) : GS n s g := fun i hi => h i (by omega) hi
theorem dn_zero {kd : Nat} {iv : Int32} (h : iv = nI kd - nI 1) (hk : kd ≤ 10) (c : iv < 0) : kd = 0 := by
  apply Classical.byContradiction
  intro q
  rw [h, nI_sub (by omega)] at c
  exact absurd c (nI_pos (by omega))
theorem pu_1 {c i : Nat} (h : c / 3 ^ i % 3 = 1) : puN c i + 2 ^ i = puN c (i + 1) := by show _ = puN c i + (if c / 3 ^ i % 3 = 1 then 2 ^ i else 0); rw [if_pos h]
theorem pu_0 {c i : Nat} (h : ¬ c / 3 ^ i % 3 = 1) : puN c i = puN c (i + 1) := by show _ = puN c i + (if c / 3 ^ i % 3 = 1 then 2 ^ i else 0); rw [if_neg h]; rfl
theorem sk_1 {c i : Nat} (h : c / 3 ^ i % 3 = 2) : skN c i + 2 ^ i = skN c (i + 1) := by show _ = skN c i + (if c / 3 ^ i % 3 = 2 then 2 ^ i else 0); rw [if_pos h]
theorem sk_0 {c i : Nat} (h : ¬ c / 3 ^ i % 3 = 2) : skN c i = skN c (i + 1) := by show _ = skN c i + (if c / 3 ^ i % 3 = 2 then 2 ^ i else 0); rw [if_neg h]; rfl
theorem lf_s {a b k : Nat} (h : a = b / 3 ^ k) : a / 3 = b / 3 ^ (k + 1) := by rw [h, Nat.pow_succ, Nat.div_div_eq_div_mul]
theorem dn_go {n c : Nat} {f g g2 : Nat → Int32} {s : List Nat} {p q : Nat} (hn : n ≤ 10) (h : AG f g) (hs : GS n s g) (ep : p = puN c n) (eq : q = skN c n) (e : g2 = goF n g (nI p) (nI q) (-1) (nI 0)) : (∀ i, i < n → dnzP g2 i) ↔ ∀ i, i < n → dnzP (goF n (stF n f s) (nI (puN c n)) (nI (skN c n)) (-1) (nI 0)) i := by
  have hE := ag_eg hn h hs
  have k : ∀ i, i < n → (dnzP g2 i ↔ dnzP (goF n (stF n f s) (nI (puN c n)) (nI (skN c n)) (-1) (nI 0)) i) := fun i hi => by
    unfold dnzP
    rw [e, ep, eq, goF_64 hn hi, goF_64 hn hi, eg_2 hE hi, goF_o hn (by omega) (by omega), goF_o hn (by omega) (by omega), (hE.2 i hi).2.2.2.2.2.1]
  exact ⟨fun r i hi => (k i hi).mp (r i hi), fun r i hi => (k i hi).mpr (r i hi)⟩
theorem nx_go {n c : Nat} {f g g2 : Nat → Int32} {s : List Nat} {p q r : Nat} (hn : n ≤ 10) (h : AG f g) (hs : GS n s g) (ep : p = puN c n) (eq : q = skN c n) (e : g2 = goF n g (nI p) (nI q) (-1) (nI 0)) (er : r = cdR (rdF n g2)) : r = cdR (nx n f s (puN c n) (skN c n)) := by
  rw [er, e, ep, eq, eg_nx hn (ag_eg hn h hs)]
theorem hq_s {n k sm : Nat} {f : Nat → Int32} {s : List Nat} {V : List (List Nat)} {c : List Nat → Int64} {hs : Int64 → Nat} {f1 : Nat → Int64} {f2 : Nat → Int32} (h : HT (VS n) c hs (inz (inA V (scQ n f s k)) (nx n f s (puN k n) (skN k n))) sm f1 f2) : HT (VS n) c hs (inA V (scQ n f s (k + 1))) sm f1 f2 := by
  rw [scQ_s, inA_s]; exact h
/-- where it begins, so far -/
def P0I (n : Nat) (f : Nat → Int32) (k : Nat) (g : Nat → Int32) : Prop := ∀ j, g j = if 64 ≤ j ∧ j < 64 + k then mnF f (j - 64) else f j
theorem pz_0 {n : Nat} {f : Nat → Int32} : P0I n f 0 f := fun j => by rw [if_neg (by omega)]
theorem pz_o {n k i : Nat} {f g : Nat → Int32} (h : P0I n f k g) (hk : k ≤ i) (hi : i < 10) : g (64 + i) = f (64 + i) ∧ g (54 + i) = f (54 + i) := ⟨by rw [h]; exact if_neg (by omega), by rw [h]; exact if_neg (by omega)⟩
theorem pz_s {n k : Nat} {f g g2 : Nat → Int32} {x : Int32} (h : P0I n f k g) (e : g2 = upd g (64 + k) x) (ex : x = mnF f k) : P0I n f (k + 1) g2 := fun j => by
  rw [e]
  by_cases c : j = 64 + k
  · rw [c, up_same, if_pos (by omega), show 64 + k - 64 = k by omega]; exact ex
  · rw [up_other c, h]
    by_cases d : 64 ≤ j ∧ j < 64 + k
    · rw [if_pos d, if_pos (by omega)]
    · rw [if_neg d, if_neg (by omega)]
theorem pz_y {n k a : Nat} {f g : Nat → Int32} (h : P0I n f k g) (hk : k < 10) (c : ¬ g (64 + k) < g (54 + k)) (e : g (54 + k) = nI a) : nI a = mnF f k := by
  obtain ⟨e1, e2⟩ := pz_o h (Nat.le_refl k) hk
  rw [e1, e2] at c
  unfold mnF; rw [if_neg c, ← e2]; exact e.symm
theorem pz_n {n k a : Nat} {f g : Nat → Int32} (h : P0I n f k g) (hk : k < 10) (c : g (64 + k) < g (54 + k)) (e : g (64 + k) = nI a) : nI a = mnF f k := by
  obtain ⟨e1, e2⟩ := pz_o h (Nat.le_refl k) hk
  rw [e1, e2] at c
  unfold mnF; rw [if_pos c, ← e1]; exact e.symm
theorem pz_e {n k r : Nat} {f g : Nat → Int32} (h : P0I n f k g) (hk : k = n) (hn : n ≤ 10) (er : r = cdR (rdF n g)) : AG f g ∧ r = cdR (prS n f) := by
  subst hk
  have e : g = p0F k f := funext h
  exact ⟨fun j h1 h2 h3 => by rw [h]; exact if_neg (by omega), by rw [er, e]; rfl⟩
theorem m1_big {m : Nat} (h : m < 2147483648) : ¬ nI m = -1 := fun e => by
  have := nI_pos h
  rw [e] at this; exact this (by decide)
def soZ (n : Nat) (f : Nat → Int32) : Int32 := bfs (scR n f) (enB n f) 3001 1 [prS n f] 0
def SO1 (n : Nat) (f : Nat → Int32) (x2 : Int32) (vv : List (List Nat)) (mn fr sn : Nat) (gy : Nat → Int64) (gz : Nat → Int32) : Prop :=
  (x2 = -1 → (fr < sn ∧ HT (VS n) cR hsR vv sn gy gz ∧ mn ≤ sn ∧ 1 ≤ mn ∧ sn ≤ 3000 ∧ soZ n f = bfs (scR n f) (enB n f) (3002 - mn) mn vv fr) ∨ (fr = sn ∧ soZ n f = -1)) ∧ (¬ x2 = -1 → x2 = soZ n f)
def SO2 (n : Nat) (f : Nat → Int32) (x3 : Int32) (vv : List (List Nat)) (fr k so : Nat) (gy : Nat → Int64) (gz : Nat → Int32) : Prop :=
  (x3 = -1 → HT (VS n) cR hsR (inA vv ((lvT vv fr k).flatMap (scR n f))) so gy gz ∧ anyN (enB n f) vv fr k) ∧ (¬ x3 = -1 → x3 = soZ n f)
theorem so_0 {n sn : Nat} {f : Nat → Int32} {gy : Nat → Int64} {gz : Nat → Int32} (h : HT (VS n) cR hsR (inz [] (prS n f)) sn gy gz) : sn = 1 ∧ SO1 n f (-1) [prS n f] 1 0 sn gy gz := by
  rw [inz_0] at h
  have e : sn = 1 := h.1.symm
  exact ⟨e, fun _ => Or.inl ⟨by omega, h, by omega, Nat.le_refl _, by omega, rfl⟩, fun q => absurd rfl q⟩
theorem so_l {n mn fr sn : Nat} {f : Nat → Int32} {x2 : Int32} {vv : List (List Nat)} {gy : Nat → Int64} {gz : Nat → Int32} (h : SO1 n f x2 vv mn fr sn gy gz) (c : x2 = -1) (hf : fr < sn) : HT (VS n) cR hsR vv sn gy gz ∧ mn ≤ sn ∧ 1 ≤ mn ∧ sn ≤ 3000 ∧ soZ n f = bfs (scR n f) (enB n f) (3002 - mn) mn vv fr := by
  rcases h.1 c with q | q
  · exact q.2
  · omega
theorem so_e {n mn fr sn : Nat} {f : Nat → Int32} {x2 : Int32} {vv : List (List Nat)} {gy : Nat → Int64} {gz : Nat → Int32} (h : SO1 n f x2 vv mn fr sn gy gz) (c : x2 = -1) (hf : sn ≤ fr) : x2 = soZ n f := by
  rcases h.1 c with q | q
  · omega
  · rw [c, q.2]
theorem sz2_0 {n mn fr sn : Nat} {f : Nat → Int32} {x2 : Int32} {vv : List (List Nat)} {gy : Nat → Int64} {gz : Nat → Int32} (hht : HT (VS n) cR hsR vv sn gy gz) (c : x2 = -1) : SO2 n f x2 vv fr fr sn gy gz := ⟨fun _ => ⟨hv_0 hht, an_0⟩, fun q => absurd c q⟩
theorem sz2_y {n mn fr sn k so : Nat} {f : Nat → Int32} {vv : List (List Nat)} {gy gy2 : Nat → Int64} {gz gz2 : Nat → Int32} (hht : HT (VS n) cR hsR vv sn gy gz) (hZ : soZ n f = bfs (scR n f) (enB n f) (3002 - mn) mn vv fr) (hm : mn ≤ 3000) (hfk : fr ≤ k) (hk : k < sn) (he : enB n f (vv.getD k []) = true) : SO2 n f (nI mn) vv fr (k + 1) so gy2 gz2 :=
  ⟨fun q => absurd q (m1_big (by omega)), fun _ => bf_e hZ (by omega) hfk (by rw [hht.1]; exact hk) he⟩
theorem sz2_n {n fr sn k so so2 : Nat} {f : Nat → Int32} {x3 : Int32} {vv : List (List Nat)} {gy gy2 gy3 : Nat → Int64} {gz gz2 gz3 : Nat → Int32} (hht : HT (VS n) cR hsR vv sn gy gz) (h : SO2 n f x3 vv fr k so gy2 gz2) (c : x3 = -1) (hfk : fr ≤ k) (hk : k < sn) (he : ¬ enB n f (vv.getD k []) = true) (h2 : HT (VS n) cR hsR (inA (inA vv ((lvT vv fr k).flatMap (scR n f))) (scR n f (vv.getD k []))) so2 gy3 gz3) : SO2 n f x3 vv fr (k + 1) so2 gy3 gz3 :=
  ⟨fun _ => ⟨hv_s hht hfk hk h2, an_s (h.1 c).2 hfk (by rw [hht.1]; exact hk) he⟩, fun q => absurd c q⟩
theorem sz1_t {n mn fr k so f1 s1 : Nat} {f : Nat → Int32} {x3 : Int32} {vv v1 : List (List Nat)} {gy2 g1 : Nat → Int64} {gz2 g2 : Nat → Int32} (h : SO2 n f x3 vv fr k so gy2 gz2) (c : ¬ x3 = -1) : SO1 n f x3 v1 mn f1 s1 g1 g2 := ⟨fun q => absurd q c, fun _ => h.2 c⟩
theorem sz1_4 {n mn m1 fr sn k so f1 s1 : Nat} {f : Nat → Int32} {x3 : Int32} {vv v1 : List (List Nat)} {gy gy2 g1 : Nat → Int64} {gz gz2 g2 : Nat → Int32} (hht : HT (VS n) cR hsR vv sn gy gz) (hZ : soZ n f = bfs (scR n f) (enB n f) (3002 - mn) mn vv fr) (hm : mn ≤ 3000) (h : SO2 n f x3 vv fr k so gy2 gz2) (c : x3 = -1) (hk : k = sn) (hs : 3000 < so) : SO1 n f (-4) v1 m1 f1 s1 g1 g2 :=
  ⟨fun q => absurd q (by decide), fun _ => bf_4 hZ (by omega) (an_e (h.1 c).2 (hk.trans hht.1.symm)) (hv_m hht (h.1 c).1 hs)⟩
theorem sz1_s {n mn fr sn k so : Nat} {f : Nat → Int32} {x3 : Int32} {vv : List (List Nat)} {gy gy2 : Nat → Int64} {gz gz2 : Nat → Int32} (hht : HT (VS n) cR hsR vv sn gy gz) (hZ : soZ n f = bfs (scR n f) (enB n f) (3002 - mn) mn vv fr) (hm : mn ≤ sn) (hm1 : 1 ≤ mn) (hsn : sn ≤ 3000) (h : SO2 n f x3 vv fr k so gy2 gz2) (c : x3 = -1) (hk : k = sn) (hs : so ≤ 3000) : SO1 n f x3 (inA vv ((vv.drop fr).flatMap (scR n f))) (mn + 1) sn so gy2 gz2 := by
  have ha := an_e (h.1 c).2 (hk.trans hht.1.symm)
  have h2 := hv_e hht hk (h.1 c).1
  have hl := hv_l hht h2
  refine ⟨fun _ => ?_, fun q => absurd c q⟩
  by_cases e : so = sn
  · exact Or.inr ⟨e.symm, (bf_1 hZ (by omega) ha hht h2 hs e).symm⟩
  · exact Or.inl ⟨by omega, h2, by omega, by omega, hs, bf_s hZ (by omega) (by omega) ha hht h2 hs e⟩
