/-! a call that leaves the cells in their places -/
/-- a world without the cells behind so many each time -/
def wipe : List Nat → va_W → va_W
  | [], ws => ws
  | 0 :: gs, _ :: ws => wipe gs ws
  | (g + 1) :: gs, c :: ws => c :: wipe (g :: gs) ws
  | _ :: _, [] => []
/-- .. their places -/
def wipd : List Nat → Nat → List Nat
  | [], _ => []
  | g :: gs, b => (b + g) :: wipd gs (b + g + 1)
theorem wipe_eq : ∀ (gs : List Nat) (ws ws' : va_W) (b : Nat), ws'.length = ws.length → wipe gs ws' = wipe gs ws → ∀ k, b + k ∉ wipd gs b → ws'[k]? = ws[k]?
  | [], ws, ws', _, _, h, k, _ => by
    have e : ws' = ws := by cases ws <;> cases ws' <;> exact h
    rw [e]
  | g :: gs, [], [], _, _, _, _, _ => rfl
  | g :: gs, [], c' :: t', _, hl, _, _, _ => absurd hl (fun e => Nat.succ_ne_zero _ e)
  | g :: gs, c :: t, [], _, hl, _, _, _ => absurd hl (fun e => Nat.succ_ne_zero _ e.symm)
  | 0 :: gs, c :: t, c' :: t', b, hl, h, k, hk => by
    cases k with
    | zero => exact absurd (List.mem_cons_self : b + 0 ∈ (b + 0) :: wipd gs (b + 0 + 1)) hk
    | succ k =>
      refine wipe_eq gs t t' (b + 1) (Nat.succ.inj hl) h k (fun r => hk ?_)
      rw [show b + (k + 1) = b + 1 + k by omega]
      exact List.mem_cons_of_mem _ r
  | (g + 1) :: gs, c :: t, c' :: t', b, hl, h, k, hk => by
    have h1 := List.cons.inj h
    cases k with
    | zero => rw [h1.1]; rfl
    | succ k =>
      refine wipe_eq (g :: gs) t t' (b + 1) (Nat.succ.inj hl) h1.2 k (fun r => hk ?_)
      have e1 : wipd ((g + 1) :: gs) b = wipd (g :: gs) (b + 1) := by
        show (b + (g + 1)) :: wipd gs (b + (g + 1) + 1) = (b + 1 + g) :: wipd gs (b + 1 + g + 1)
        rw [show b + (g + 1) = b + 1 + g by omega]
      rw [e1, show b + (k + 1) = b + 1 + k by omega]
      exact r
termination_by gs ws ws' => ws.length
theorem u_at {ws w : va_W} {is : List Nat} (hs : is.map (fun i => ws[i]?) = w.map some) (k : Nat) (q : Nat × va_E) (hq : w[k]? = some q) : ∃ i, is[k]? = some i ∧ ws[i]? = some q := by
  have h1 : (is.map (fun i => ws[i]?))[k]? = some (some q) := by rw [hs, List.getElem?_map, hq]; rfl
  rw [List.getElem?_map] at h1
  cases hi : is[k]? with
  | none => rw [hi] at h1; cases h1
  | some i => rw [hi] at h1; exact ⟨i, rfl, Option.some.inj h1⟩
theorem u_in {ws w : va_W} {is : List Nat} (hs : is.map (fun i => ws[i]?) = w.map some) : ∀ i ∈ is, i < ws.length := by
  intro i hi
  obtain ⟨k, hk⟩ := List.getElem?_of_mem hi
  have h1 : (is.map (fun i => ws[i]?))[k]? = some (ws[i]?) := by rw [List.getElem?_map, hk]; rfl
  rw [hs, List.getElem?_map] at h1
  cases hw : w[k]? with
  | none => rw [hw] at h1; cases h1
  | some q => rw [hw] at h1; exact (List.getElem?_eq_some_iff.mp (Option.some.inj h1).symm).1
theorem u_len {ws w : va_W} {is : List Nat} (hs : is.map (fun i => ws[i]?) = w.map some) : is.length = w.length := by
  have := congrArg List.length hs
  rw [List.length_map, List.length_map] at this
  exact this
theorem u_fst {w1 wc : va_W} (h : w1.map Prod.fst = wc.map Prod.fst) (a : Nat) (q : Nat × va_E) (hq : w1[a]? = some q) : ∃ q', wc[a]? = some q' ∧ q'.1 = q.1 := by
  have h1 : (w1.map Prod.fst)[a]? = some q.1 := by rw [List.getElem?_map, hq]; rfl
  rw [h, List.getElem?_map] at h1
  cases hw : wc[a]? with
  | none => rw [hw] at h1; cases h1
  | some q' => rw [hw] at h1; exact ⟨q', rfl, Option.some.inj h1⟩
theorem u_join {A0 : Nat → Prop} {D : va_G} {cl : List vw_C} {ws ws' wc w1 : va_W} {H H1 : Heap} (hP : va_P D cl ws H) (hD : va_D A0 ws) (isC : List Nat) (hC : isC.map (fun i => ws[i]?) = wc.map some)
    (hk : ∀ q : Nat, q < H.size → ¬ va_A wc H.size q → H1[q]? = H[q]?) (hF : ∀ q, va_A wc H.size q → A0 q) (hP1 : va_P D cl w1 H1) (hD1 : va_D (va_A wc H.size) w1) (ha : w1.map Prod.fst = wc.map Prod.fst) (hcase : ∀ (k : Nat) (q : Nat × va_E), ws'[k]? = some q → (∃ j : Nat, isC[j]? = some k ∧ w1[j]? = some q) ∨ (k ∉ isC ∧ ws[k]? = some q)) : va_P D cl ws' H1 ∧ va_D A0 ws' := by
  have old : ∀ (a i : Nat) (x : Nat × va_E), isC[a]? = some i → w1[a]? = some x → ∃ x', ws[i]? = some x' ∧ x'.1 = x.1 := by
    intro a i x h1 h2
    obtain ⟨x', h3, h4⟩ := u_fst ha a x h2
    obtain ⟨i', h5, h6⟩ := u_at hC a x' h3
    rw [h1] at h5
    have e := Option.some.inj h5
    subst e
    exact ⟨x', h6, h4⟩
  refine ⟨fun k q h => ?_, fun i j x y hx hy hxy => ?_, fun k q h => ?_⟩
  · rcases hcase k q h with ⟨j, -, h2⟩ | ⟨h1, h2⟩
    · exact hP1 j q h2
    · refine (hP k q h2).kept (hk q.1 (hP k q h2).lt (fun z => ?_))
      have hlt := (hP k q h2).lt
      rcases z with ⟨k2, e, z⟩ | z
      · obtain ⟨j, h3, h4⟩ := u_at hC k2 (q.1, e) z
        have hij := hD.1 k j q (q.1, e) h2 h4 rfl
        subst hij
        exact h1 (List.mem_of_getElem? h3)
      · omega
  · rcases hcase i x hx with ⟨a, a1, a2⟩ | ⟨a1, a2⟩
    · rcases hcase j y hy with ⟨b, b1, b2⟩ | ⟨b1, b2⟩
      · have e := hD1.1 a b x y a2 b2 hxy
        subst e
        exact Option.some.inj (a1.symm.trans b1)
      · obtain ⟨x', h3, h4⟩ := old a i x a1 a2
        exact hD.1 i j x' y h3 b2 (h4.trans hxy)
    · rcases hcase j y hy with ⟨b, b1, b2⟩ | ⟨b1, b2⟩
      · obtain ⟨y', h3, h4⟩ := old b j y b1 b2
        exact hD.1 i j x y' a2 h3 (hxy.trans h4.symm)
      · exact hD.1 i j x y a2 b2 hxy
  · rcases hcase k q h with ⟨a, -, a2⟩ | ⟨-, a2⟩
    · exact hF _ (hD1.2 a q a2)
    · exact hD.2 k q a2
theorem u_case {ws ws' w1 : va_W} {isC gs : List Nat} (hl : ws'.length = ws.length) (hw : wipe gs ws' = wipe gs ws) (hg : ∀ k ∈ wipd gs 0, k ∈ isC) (hn : isC.map (fun i => ws'[i]?) = w1.map some) (k : Nat) (q : Nat × va_E) (h : ws'[k]? = some q) : (∃ j : Nat, isC[j]? = some k ∧ w1[j]? = some q) ∨ (k ∉ isC ∧ ws[k]? = some q) := by
  by_cases c : k ∈ isC
  · obtain ⟨j, hj⟩ := List.getElem?_of_mem c
    refine Or.inl ⟨j, hj, ?_⟩
    have h1 : (isC.map (fun i => ws'[i]?))[j]? = some (ws'[k]?) := by rw [List.getElem?_map, hj]; rfl
    rw [hn, List.getElem?_map, h] at h1
    cases hw1 : w1[j]? with
    | none => rw [hw1] at h1; cases h1
    | some x => rw [hw1] at h1; exact Option.some.inj h1
  · refine Or.inr ⟨c, ?_⟩
    rw [← wipe_eq gs ws ws' 0 hl hw k (fun r => c (hg k (by rw [Nat.zero_add] at r; exact r)))]
    exact h
theorem g_backU {p : Program} {l : Launch} {e : Env} {R : Room} {s : State} {m : MethodId} {args : Array Value} {below : List Frame} {meth : Method} {c : Code} {H : Heap} {locs : List Loc} {cells slots : Nat} {Q : State → Prop} {pc : Nat} {ls : Array Slot} {rest : List Value} {D : va_G} {T : Nat → ClassId} {A : Nat → Prop} {ws : va_W} {mc ms : Nat} {wc : va_W} {Qr : Option Value → va_W → Prop} {aa : Array Value} {st0 : List Value} (V : gW D T A s ws H locs) (isC : List Nat) (hCc : isC.map (fun i => ws[i]?) = wc.map some)
    (hr : va_Run p l e R s m args below meth c H locs cells slots mc ms (F0 m pc ls st0) rest (gQ D (va_A wc H.size) Qr aa) (va_A wc H.size))
    (kk : ∀ (r : Option Value) (w1 : va_W) (H1 : Heap) (locs1 : List Loc), Qr r w1 → (∀ (ws' : va_W) (gs : List Nat), w1.map Prod.fst = wc.map Prod.fst → ws'.length = ws.length → wipe gs ws' = wipe gs ws → (∀ k ∈ wipd gs 0, k ∈ isC) → isC.map (fun i => ws'[i]?) = w1.map some → gW D T A s ws' H1 locs1) → W p l e R s m args below meth c H1 locs1 (cells + mc) (slots + ms) Q (F0 m (pc + 3) ls (r.toList ++ rest))) : W p l e R s m args below meth c H locs cells slots Q (F0 m pc ls st0) := by
  intro T0 hT X
  obtain ⟨hK, hP, hD, hS, hA, hN⟩ := V
  have hF := va_free (wc := wc) hD hS hA isC hCc
  obtain ⟨v, st₀, t, T', L, h0, X', hL, e1, e2, ⟨⟨r, w1, hv, hq, hP1, hD1⟩, hz, hk⟩, st⟩ := hr T0 hT X
  cases hv
  rw [h0] at hz hk
  have hz1 : H.size ≤ T'.heap.size := by rw [e1]; exact hz
  have hk1 : ∀ q : Nat, q < H.size → ¬ va_A wc H.size q → T'.heap[q]? = H[q]? := fun q h1 h2 => by rw [e1]; exact hk q h1 h2
  have hS2 : va_S A s.heap T'.heap (locs ++ L) := ⟨Nat.le_trans hS.1 hz1, fun q h1 h2 => by rw [hk1 q (Nat.lt_of_lt_of_le h1 hS.1) (fun z => h2 (hF q z))]; exact hS.2.1 q h1 h2, fun q hq => by
      rcases List.mem_append.mp hq with h | h
      · exact hS.2.2 q h
      · exact hF _ (hL q h)⟩
  have hV : ∀ (ws' : va_W) (gs : List Nat), w1.map Prod.fst = wc.map Prod.fst → ws'.length = ws.length → wipe gs ws' = wipe gs ws → (∀ k ∈ wipd gs 0, k ∈ isC) → isC.map (fun i => ws'[i]?) = w1.map some → gW D T A s ws' T'.heap (locs ++ L) := fun ws' gs ha hl hw hg hn => by
    obtain ⟨hP2, hD2⟩ := u_join (w1 := w1) (ws' := ws') (H1 := T'.heap) hP hD isC hCc hk1 hF (by rw [e1]; exact hP1) hD1 ha (u_case hl hw hg hn)
    exact ⟨hK, hP2, hD2, hS2, hA, hN⟩
  obtain ⟨t2, a1, b1⟩ := kk v w1 T'.heap (locs ++ L) hq hV T' rfl X'
  exact ⟨t2, st t2 a1, b1⟩

section GU
variable {p : Program} {l : Launch} {e : Env} {R : Room} {s : State} {m : MethodId} {args : Array Value} {below : List Frame} {meth : Method} {c : Code} {H : Heap} {locs : List Loc} {cells slots : Nat} {Q : State → Prop}
variable {own : String} {cc : ByteArray} {nL : Nat} {rt : Option FieldType} {pc : Nat} {ls : Array Slot} {rest : List Value} {D : va_G} {T : Nat → ClassId} {A : Nat → Prop} {a : Nat} {ws ws' : va_W}
variable {y : MethodName} {d k n : Nat} {b : Nat} {As : List Value} {wc wr : va_W} {Qr : Option Value → va_W → Prop} {bytes : ByteArray} {maxL index nA : Nat} {ret : Option FieldType} {C : String}
theorem g_callVU (hC : cX p s m args meth c own cc nL rt) (V : gW D T A s ws H locs) (hl : ls.size = nL) (hM : Ct l y bytes maxL ret d k n D T (.ref b :: As) wc Qr) (w1 : Cond.methodLink own index y ∈ gT) (w2 : Cond.instanceMethod y ∈ gT) (w3 : Cond.selects C y y ∈ gT) (w4 : Cond.initialized C ∈ gT) (w5 : Cond.code y bytes maxL ret ∈ gT) (hd : y.cls = C ∧ y.cls ≠ "java/lang/invoke/MethodHandle" ∧ y.cls ≠ "java/lang/invoke/VarHandle" ∧ (parseMethodDescriptor y.desc).map (fun d => d.parameters.length) = some nA) (hnA : As.length = nA) (hR : d + 1 ≤ R.frames ∧ 8 + (maxL + 11) + 64 * d ≤ R.locals)
    (q0 : Nat) {ci : Nat} {fs : List Value} {rr : u_T × Nat} (he : ws[q0]? = some (b, .inr (ci, fs))) (hc : vwCl[ci]? = some (C, rr)) (isC : List Nat) (hnd : va_nd isC = true) (hCc : isC.map (fun i => ws[i]?) = wc.map some) (hst : (rest.map fun v => v.category).sum ≤ 8) (hdg : decode cc pc = .ok (.invokevirtual index, 3)) (hf : cells + k ≤ R.cells ∧ slots + n ≤ R.slots) {st0 : List Value} (hst0 : st0 = As.reverse ++ .ref b :: rest)
    (kk : ∀ (r : Option Value) (w1 : va_W) (H1 : Heap) (locs1 : List Loc), Qr r w1 → (∀ (ws' : va_W) (gs : List Nat), w1.map Prod.fst = wc.map Prod.fst → ws'.length = ws.length → wipe gs ws' = wipe gs ws → (∀ k ∈ wipd gs 0, k ∈ isC) → isC.map (fun i => ws'[i]?) = w1.map some → gW D T A s ws' H1 locs1) → W p l e R s m args below meth c H1 locs1 (cells + k) (slots + n) Q (F0 m (pc + 3) ls (r.toList ++ rest))) : W p l e R s m args below meth c H locs cells slots Q (F0 m pc ls st0) := by
  subst hst0
  exact g_backU V isC hCc (va_runV ⟨hC.1, hC.2.1, hC.2.2.2.1, hC.2.2.2.2.1, hC.2.2.2.2.2.1⟩ (hM H.size) (cwV nA hC.2.2.2.2.2.1 (g_good (List.forall_mem_cons.mpr ⟨w1, List.forall_mem_cons.mpr ⟨w2, List.forall_mem_cons.mpr ⟨w3, List.forall_mem_cons.mpr ⟨w4, List.forall_mem_cons.mpr ⟨w5, fun _ h => h⟩⟩⟩⟩⟩)) rfl rfl rfl hd hR) ⟨g_blind _ _ _, va_recv V.1 V.2.1 hc he, g_pre V _ isC hnd hCc⟩ rfl hnA hl rfl (lv_room hst) hdg hf) kk
theorem g_callZU (hC : cX p s m args meth c own cc nL rt) (V : gW D T A s ws H locs) (hl : ls.size = nL) (hM : Ct l y bytes maxL ret d k n D T (.ref b :: As) wc Qr) (w1 : Cond.methodLink own index y ∈ gT) (w2 : Cond.instanceMethod y ∈ gT) (w3 : Cond.selects C y y ∈ gT) (w4 : Cond.initialized C ∈ gT) (w5 : Cond.code y bytes maxL ret ∈ gT) (hd : y.cls = C ∧ y.cls ≠ "java/lang/invoke/MethodHandle" ∧ y.cls ≠ "java/lang/invoke/VarHandle" ∧ (parseMethodDescriptor y.desc).map (fun d => d.parameters.length) = some nA) (hnA : As.length = nA) (hR : d + 1 ≤ R.frames ∧ 8 + (maxL + 11) + 64 * d ≤ R.locals)
    {si : Nat} (hsi : si < 9) (hbs : b = D.2 9 si) (hCs : C = "java/lang/String") (isC : List Nat) (hnd : va_nd isC = true) (hCc : isC.map (fun i => ws[i]?) = wc.map some) (hst : (rest.map fun v => v.category).sum ≤ 8) (hdg : decode cc pc = .ok (.invokevirtual index, 3)) (hf : cells + k ≤ R.cells ∧ slots + n ≤ R.slots) {st0 : List Value} (hst0 : st0 = As.reverse ++ .ref b :: rest)
    (kk : ∀ (r : Option Value) (w1 : va_W) (H1 : Heap) (locs1 : List Loc), Qr r w1 → (∀ (ws' : va_W) (gs : List Nat), w1.map Prod.fst = wc.map Prod.fst → ws'.length = ws.length → wipe gs ws' = wipe gs ws → (∀ k ∈ wipd gs 0, k ∈ isC) → isC.map (fun i => ws'[i]?) = w1.map some → gW D T A s ws' H1 locs1) → W p l e R s m args below meth c H1 locs1 (cells + k) (slots + n) Q (F0 m (pc + 3) ls (r.toList ++ rest))) : W p l e R s m args below meth c H locs cells slots Q (F0 m pc ls st0) := by
  subst hst0; subst hbs; subst hCs
  exact g_backU V isC hCc (va_runV ⟨hC.1, hC.2.1, hC.2.2.2.1, hC.2.2.2.2.1, hC.2.2.2.2.2.1⟩ (hM H.size) (cwV nA hC.2.2.2.2.2.1 (g_good (List.forall_mem_cons.mpr ⟨w1, List.forall_mem_cons.mpr ⟨w2, List.forall_mem_cons.mpr ⟨w3, List.forall_mem_cons.mpr ⟨w4, List.forall_mem_cons.mpr ⟨w5, fun _ h => h⟩⟩⟩⟩⟩)) rfl rfl rfl hd hR) ⟨g_blind _ _ _, vk_recv V.2.2.2.2.2.2.1 hsi V.2.2.2.1, g_pre V _ isC hnd hCc⟩ rfl hnA hl rfl (lv_room hst) hdg hf) kk
theorem g_callSU (hC : cX p s m args meth c own cc nL rt) (V : gW D T A s ws H locs) (hl : ls.size = nL) (hM : Ct l y bytes maxL ret d k n D T As wc Qr) (w1 : Cond.methodLink own index y ∈ gT) (w2 : Cond.static y ∈ gT) (w4 : Cond.initialized y.cls ∈ gT) (w5 : Cond.code y bytes maxL ret ∈ gT) (hd : y.cls ≠ "java/lang/invoke/MethodHandle" ∧ y.cls ≠ "java/lang/invoke/VarHandle" ∧ (parseMethodDescriptor y.desc).map (fun d => d.parameters.length) = some nA) (hnA : As.length = nA) (hR : d + 1 ≤ R.frames ∧ 8 + (maxL + 11) + 64 * d ≤ R.locals)
    (isC : List Nat) (hnd : va_nd isC = true) (hCc : isC.map (fun i => ws[i]?) = wc.map some) (hst : (rest.map fun v => v.category).sum ≤ 8) (hdg : decode cc pc = .ok (.invokestatic index, 3)) (hf : cells + k ≤ R.cells ∧ slots + n ≤ R.slots) {st0 : List Value} (hst0 : st0 = As.reverse ++ rest)
    (kk : ∀ (r : Option Value) (w1 : va_W) (H1 : Heap) (locs1 : List Loc), Qr r w1 → (∀ (ws' : va_W) (gs : List Nat), w1.map Prod.fst = wc.map Prod.fst → ws'.length = ws.length → wipe gs ws' = wipe gs ws → (∀ k ∈ wipd gs 0, k ∈ isC) → isC.map (fun i => ws'[i]?) = w1.map some → gW D T A s ws' H1 locs1) → W p l e R s m args below meth c H1 locs1 (cells + k) (slots + n) Q (F0 m (pc + 3) ls (r.toList ++ rest))) : W p l e R s m args below meth c H locs cells slots Q (F0 m pc ls st0) := by
  subst hst0
  exact g_backU V isC hCc (va_runS ⟨hC.1, hC.2.1, hC.2.2.2.1, hC.2.2.2.2.1, hC.2.2.2.2.2.1⟩ (hM H.size) (va_cwS nA hC.2.2.2.2.2.1 (g_good (List.forall_mem_cons.mpr ⟨w1, List.forall_mem_cons.mpr ⟨w2, List.forall_mem_cons.mpr ⟨w4, List.forall_mem_cons.mpr ⟨w5, fun _ h => h⟩⟩⟩⟩)) rfl rfl rfl hd hR) ⟨g_blind _ _ _, g_pre V _ isC hnd hCc⟩ rfl hnA hl rfl (lv_room hst) hdg hf) kk
theorem g_callSNU (hC : cX p s m args meth c own cc nL rt) (V : gW D T A s ws H locs) (hl : ls.size = nL) (hM : Ct l y bytes maxL ret d k n D T As wc Qr) (w5 : Cond.code y bytes maxL ret ∈ gT) {host : String} (hnl : (own, index, y, host) ∈ nLs) (hini : Cond.initialized y.cls ∈ gT) (hstat : Cond.static y ∈ gT) (hd : y.cls ≠ "java/lang/invoke/MethodHandle" ∧ y.cls ≠ "java/lang/invoke/VarHandle" ∧ (parseMethodDescriptor y.desc).map (fun d => d.parameters.length) = some nA) (hnA : As.length = nA) (hR : d + 1 ≤ R.frames ∧ 8 + (maxL + 11) + 64 * d ≤ R.locals)
    (isC : List Nat) (hnd : va_nd isC = true) (hCc : isC.map (fun i => ws[i]?) = wc.map some) (hst : (rest.map fun v => v.category).sum ≤ 8) (hdg : decode cc pc = .ok (.invokestatic index, 3)) (hf : cells + k ≤ R.cells ∧ slots + n ≤ R.slots) {st0 : List Value} (hst0 : st0 = As.reverse ++ rest)
    (kk : ∀ (r : Option Value) (w1 : va_W) (H1 : Heap) (locs1 : List Loc), Qr r w1 → (∀ (ws' : va_W) (gs : List Nat), w1.map Prod.fst = wc.map Prod.fst → ws'.length = ws.length → wipe gs ws' = wipe gs ws → (∀ k ∈ wipd gs 0, k ∈ isC) → isC.map (fun i => ws'[i]?) = w1.map some → gW D T A s ws' H1 locs1) → W p l e R s m args below meth c H1 locs1 (cells + k) (slots + n) Q (F0 m (pc + 3) ls (r.toList ++ rest))) : W p l e R s m args below meth c H locs cells slots Q (F0 m pc ls st0) := by
  subst hst0
  exact g_backU V isC hCc (va_runSN ⟨hC.1, hC.2.1, hC.2.2.2.1, hC.2.2.2.2.1, hC.2.2.2.2.2.1⟩ (hM H.size) ⟨va_cnB nA hC.2.2.2.2.2.1 (g_good (List.forall_mem_cons.mpr ⟨w5, fun _ h => h⟩)) rfl rfl rfl (V.2.2.2.2.2.1.1 (own, index, y, host) hnl) (hC.2.2.2.2.2.1 _ hini) hd hR, hC.2.2.2.2.2.1 _ hstat, trivial⟩ ⟨g_blind _ _ _, g_pre V _ isC hnd hCc⟩ rfl hnA hl rfl (lv_room hst) hdg hf) kk
theorem g_callINU (hC : cX p s m args meth c own cc nL rt) (V : gW D T A s ws H locs) (hl : ls.size = nL) (hM : Ct l y bytes maxL none d k n D T (.ref b :: As) wc Qr) (w5 : Cond.code y bytes maxL none ∈ gT) {host : String} (hnl : (own, index, y, host) ∈ nLs) (hini : Cond.initialized y.cls ∈ gT) (hinst : Cond.instanceMethod y ∈ gT) (hnm : y.name = "<init>") (hd : y.cls ≠ "java/lang/invoke/MethodHandle" ∧ y.cls ≠ "java/lang/invoke/VarHandle" ∧ (parseMethodDescriptor y.desc).map (fun d => d.parameters.length) = some nA) (hnA : As.length = nA) (hR : d + 1 ≤ R.frames ∧ 8 + (maxL + 11) + 64 * d ≤ R.locals)
    (isC : List Nat) (hnd : va_nd isC = true) (hCc : isC.map (fun i => ws[i]?) = wc.map some) (hst : (rest.map fun v => v.category).sum ≤ 8) (hdg : decode cc pc = .ok (.invokespecial index, 3)) (hf : cells + k ≤ R.cells ∧ slots + n ≤ R.slots) {st0 : List Value} (hst0 : st0 = As.reverse ++ .ref b :: rest)
    (kk : ∀ (r : Option Value) (w1 : va_W) (H1 : Heap) (locs1 : List Loc), Qr r w1 → (∀ (ws' : va_W) (gs : List Nat), w1.map Prod.fst = wc.map Prod.fst → ws'.length = ws.length → wipe gs ws' = wipe gs ws → (∀ k ∈ wipd gs 0, k ∈ isC) → isC.map (fun i => ws'[i]?) = w1.map some → gW D T A s ws' H1 locs1) → W p l e R s m args below meth c H1 locs1 (cells + k) (slots + n) Q (F0 m (pc + 3) ls (r.toList ++ rest))) : W p l e R s m args below meth c H locs cells slots Q (F0 m pc ls st0) := by
  subst hst0
  exact g_backU V isC hCc (va_runIN ⟨hC.1, hC.2.1, hC.2.2.2.1, hC.2.2.2.2.1, hC.2.2.2.2.2.1⟩ (hM H.size) ⟨va_cnB nA hC.2.2.2.2.2.1 (g_good (List.forall_mem_cons.mpr ⟨w5, fun _ h => h⟩)) rfl rfl rfl (V.2.2.2.2.2.1.1 (own, index, y, host) hnl) (hC.2.2.2.2.2.1 _ hini) hd hR, hnm, hC.2.2.2.2.2.1 _ hinst⟩ ⟨g_blind _ _ _, g_pre V _ isC hnd hCc⟩ rfl hnA hl rfl (lv_room hst) hdg hf) kk
theorem g_callIU (hC : cX p s m args meth c own cc nL rt) (V : gW D T A s ws H locs) (hl : ls.size = nL) (hM : Ct l y bytes maxL none d k n D T (.ref b :: As) wc Qr) (w5 : Cond.code y bytes maxL none ∈ gT) (hini : Cond.initialized y.cls ∈ gT) (hlk : Cond.methodLink own index y ∈ gT) (hinst : Cond.instanceMethod y ∈ gT) (hnm : y.name = "<init>") (hd : y.cls ≠ "java/lang/invoke/MethodHandle" ∧ y.cls ≠ "java/lang/invoke/VarHandle" ∧ (parseMethodDescriptor y.desc).map (fun d => d.parameters.length) = some nA) (hnA : As.length = nA) (hR : d + 1 ≤ R.frames ∧ 8 + (maxL + 11) + 64 * d ≤ R.locals)
    (isC : List Nat) (hnd : va_nd isC = true) (hCc : isC.map (fun i => ws[i]?) = wc.map some) (hst : (rest.map fun v => v.category).sum ≤ 8) (hdg : decode cc pc = .ok (.invokespecial index, 3)) (hf : cells + k ≤ R.cells ∧ slots + n ≤ R.slots) {st0 : List Value} (hst0 : st0 = As.reverse ++ .ref b :: rest)
    (kk : ∀ (r : Option Value) (w1 : va_W) (H1 : Heap) (locs1 : List Loc), Qr r w1 → (∀ (ws' : va_W) (gs : List Nat), w1.map Prod.fst = wc.map Prod.fst → ws'.length = ws.length → wipe gs ws' = wipe gs ws → (∀ k ∈ wipd gs 0, k ∈ isC) → isC.map (fun i => ws'[i]?) = w1.map some → gW D T A s ws' H1 locs1) → W p l e R s m args below meth c H1 locs1 (cells + k) (slots + n) Q (F0 m (pc + 3) ls (r.toList ++ rest))) : W p l e R s m args below meth c H locs cells slots Q (F0 m pc ls st0) := by
  subst hst0
  exact g_backU V isC hCc (va_runI ⟨hC.1, hC.2.1, hC.2.2.2.1, hC.2.2.2.2.1, hC.2.2.2.2.2.1⟩ (hM H.size) (cwI nA hC.2.2.2.2.2.1 (g_good (List.forall_mem_cons.mpr ⟨w5, fun _ h => h⟩)) rfl rfl rfl (hC.2.2.2.2.2.1 _ hini) (hC.2.2.2.2.2.1 _ hlk) (hC.2.2.2.2.2.1 _ hinst) hnm hd hR) ⟨g_blind _ _ _, g_pre V _ isC hnd hCc⟩ rfl hnA hl rfl (lv_room hst) hdg hf) kk
end GU
