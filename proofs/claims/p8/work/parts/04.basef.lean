section GR
variable {p : Program} {l : Launch} {e : Env} {R : Room} {s : State} {m : MethodId} {args : Array Value} {below : List Frame} {meth : Method} {c : Code} {H : Heap} {locs : List Loc} {cells slots : Nat} {Q : State → Prop}
variable {own : String} {cc : ByteArray} {nL : Nat} {rt : Option FieldType} {pc : Nat} {ls : Array Slot} {rest : List Value} {D : va_G} {T : Nat → ClassId} {A : Nat → Prop} {a : Nat} {ws ws' : va_W}
theorem g_new (hC : cX p s m args meth c own cc nL rt) (V : gW D T A s ws H locs) {C : String} {TT : u_T} {N ci index : Nat} (hin : ∀ w ∈ u_ws C TT N, w ∈ gT) (ty0 : Nat → FieldType) (hty : ∀ k, k < N → parseFieldDescriptor (TT k).2.2.1 = some (ty0 k)) (hcl : Cond.classLink own index C ∈ gT) (hinst : Cond.instantiable C N ∈ gT) (hini : Cond.initialized C ∈ gT) (hc : vwCl[ci]? = some (C, TT, N)) {fs : List Value} (hfs : (List.range N).map (fun j => defaultValue (ty0 j)) = fs) (hcells : cells + 1 ≤ R.cells) (hslots : slots + N ≤ R.slots) (hdg : decode cc pc = .ok (.new index, 3))
    (kk : ∀ (q : Nat) (H1 : Heap), gW D T A s (ws ++ [(q, .inr (ci, fs))]) H1 locs → W p l e R s m args below meth c H1 locs (cells + 1) (slots + N) Q (F0 m (pc + 3) ls (.ref q :: rest))) : W p l e R s m args below meth c H locs cells slots Q (F0 m pc ls rest) :=
  va_new hC.1 hC.2.1 hC.2.2.2.2.2.1 hin ty0 hty hC.2.2.2.2.1 (hC.2.2.2.2.2.1 _ hcl) (hC.2.2.2.2.2.1 _ hinst) (hC.2.2.2.2.2.1 _ hini) V.1 V.2.1 V.2.2.1 V.2.2.2.1 V.2.2.2.2.1 hc (fun j hj => by subst hfs; simp [vp_V, hj]) hcells hslots hdg (fun q H1 h1 h2 h3 => kk q H1 ⟨V.1, h1, h2, h3, V.2.2.2.2⟩)
theorem g_newa (hC : cX p s m args meth c own cc nL rt) (V : gW D T A s ws H locs) {atype : ArrayType} {ty : FieldType} (harr : Cond.arrayClass ty ∈ gT) (hty : newarray.typeOf atype = ty) (t0 : Nat) {cA : ClassId} (ht : (ty6 T)[t0]? = some (cA, ty)) (hpr : ∀ C, ty ≠ .object C) {N : Nat} {a0 : vp_A} (ha : ∀ cA : ClassId, vp_cell cA a0 = arrV cA N (fun _ => defaultValue ty)) (hN : N < 2 ^ 20) (hbytes : N * componentBytes ty ≤ 536870912) (hcells : cells + 1 ≤ R.cells) (hslots : slots + N ≤ R.slots) (hdg : decode cc pc = .ok (.newarray atype, 2))
    (kk : ∀ (q : Nat) (H1 : Heap), gW D T A s (ws ++ [(q, .inl (cA, a0))]) H1 locs → W p l e R s m args below meth c H1 locs (cells + 1) (slots + N) Q (F0 m (pc + 2) ls (.ref q :: rest))) : W p l e R s m args below meth c H locs cells slots Q (F0 m pc ls (.int (nI N) :: rest)) := by
  refine va_newa hC.1 hC.2.1 (atype := atype) (by rw [hty]; exact hC.2.2.2.2.2.1 _ harr) hty V.1 V.2.1 V.2.2.1 V.2.2.2.1 V.2.2.2.2.1 ha (nI_pos (by omega)) (nI_clamp (by omega)) hbytes hcells hslots hdg (fun q cB H1 h0 h1 h2 h3 => ?_)
  have e1 := (V.1.2 t0 _ ht).2
  have e2 := (h0.2 6 (cB, ty) rfl).2
  have e : cB = cA := by
    cases ty with
    | object C => exact absurd rfl (hpr C)
    | _ => exact Option.some.inj (Eq.trans (Eq.symm e2) e1)
  subst e
  exact kk q H1 ⟨V.1, h1, h2, h3, V.2.2.2.2⟩
theorem g_newq (hC : cX p s m args meth c own cc nL rt) (V : gW D T A s ws H locs) {C : String} {index : Nat} (hcl : Cond.classLink own index C ∈ gT) (hao : nW s → va_AO C s) (t0 : Nat) {cA : ClassId} (ht : (ty6 T)[t0]? = some (cA, .object C)) {N : Nat} (hN : N < 2 ^ 20) (hcells : cells + 1 ≤ R.cells) (hslots : slots + N ≤ R.slots) (hdg : decode cc pc = .ok (.anewarray index, 3))
    (kk : ∀ (q : Nat) (H1 : Heap), gW D T A s (ws ++ [(q, .inl (cA, N, .inr (.inr (.inr (.inr (fun _ => none))))))]) H1 locs → W p l e R s m args below meth c H1 locs (cells + 1) (slots + N) Q (F0 m (pc + 3) ls (.ref q :: rest))) : W p l e R s m args below meth c H locs cells slots Q (F0 m pc ls (.int (nI N) :: rest)) := by
  refine va_newq hC.1 hC.2.1 hC.2.2.2.2.1 (hC.2.2.2.2.2.1 _ hcl) (hao V.2.2.2.2.2.1) V.1 V.2.1 V.2.2.1 V.2.2.2.1 V.2.2.2.2.1 (nI_pos (by omega)) (nI_clamp (by omega)) (by omega) hcells hslots hdg (fun q cB H1 h0 h1 h2 h3 => ?_)
  obtain ⟨kA, comp, -, -, -, e1⟩ := (V.1.2 t0 _ ht).2
  obtain ⟨kB, comB, -, -, -, e2⟩ := (h0.2 6 (cB, .object C) rfl).2
  have e : cB = cA := Option.some.inj (Eq.trans (Eq.symm e2) e1)
  subst e
  exact kk q H1 ⟨V.1, h1, h2, h3, V.2.2.2.2⟩
/-- what comes back from a call -/
theorem g_back {mc ms : Nat} {wc wr : va_W} {Qr : Option Value → va_W → Prop} {aa : Array Value} {st0 : List Value} (V : gW D T A s ws H locs) (isC isR : List Nat) (hCc : isC.map (fun i => ws[i]?) = wc.map some) (hRr : isR.map (fun i => ws[i]?) = wr.map some) (hn : va_nd isR = true) (hdis : ∀ i ∈ isR, i ∉ isC)
    (hr : va_Run p l e R s m args below meth c H locs cells slots mc ms (F0 m pc ls st0) rest (gQ D (va_A wc H.size) Qr aa) (va_A wc H.size))
    (kk : ∀ (r : Option Value) (w1 : va_W) (H1 : Heap) (locs1 : List Loc), Qr r w1 → gW D T A s (wr ++ w1) H1 locs1 → W p l e R s m args below meth c H1 locs1 (cells + mc) (slots + ms) Q (F0 m (pc + 3) ls (r.toList ++ rest))) : W p l e R s m args below meth c H locs cells slots Q (F0 m pc ls st0) := by
  intro T0 hT X
  obtain ⟨hK, hP, hD, hS, hA, hN⟩ := V
  have hF := va_free (wc := wc) hD hS hA isC hCc
  obtain ⟨v, st₀, t, T', L, h0, X', hL, e1, e2, ⟨⟨r, w1, hv, hq, hP1, hD1⟩, hz, hk⟩, st⟩ := hr T0 hT X
  cases hv
  rw [h0] at hz hk
  have hz1 : H.size ≤ T'.heap.size := by rw [e1]; exact hz
  have hk1 : ∀ q : Nat, q < H.size → ¬ va_A wc H.size q → T'.heap[q]? = H[q]? := fun q h1 h2 => by rw [e1]; exact hk q h1 h2
  obtain ⟨hP2, hD2⟩ := va_join (wr := wr) (w1 := w1) (H1 := T'.heap) hP hD isC isR hCc hRr hn hdis hk1 hF (by rw [e1]; exact hP1) hD1
  have hS2 : va_S A s.heap T'.heap (locs ++ L) := ⟨Nat.le_trans hS.1 hz1, fun q h1 h2 => by rw [hk1 q (Nat.lt_of_lt_of_le h1 hS.1) (fun z => h2 (hF q z))]; exact hS.2.1 q h1 h2, fun q hq => by
      rcases List.mem_append.mp hq with h | h
      · exact hS.2.2 q h
      · exact hF _ (hL q h)⟩
  obtain ⟨t2, a1, b1⟩ := kk v w1 T'.heap (locs ++ L) hq ⟨hK, hP2, hD2, hS2, hA, hN⟩ T' rfl X'
  exact ⟨t2, st t2 a1, b1⟩
end GR
