section GR
variable {p : Program} {l : Launch} {e : Env} {R : Room} {s : State} {m : MethodId} {args : Array Value} {below : List Frame} {meth : Method} {c : Code} {H : Heap} {locs : List Loc} {cells slots : Nat} {Q : State → Prop}
variable {own : String} {cc : ByteArray} {nL : Nat} {rt : Option FieldType} {pc : Nat} {ls : Array Slot} {rest : List Value} {D : va_G} {T : Nat → ClassId} {A : Nat → Prop} {a : Nat} {ws ws' : va_W}
theorem g_bald (hC : cX p s m args meth c own cc nL rt) (V : gW D T A s ws H locs) (q0 : Nat) {n : Nat} {f : Nat → Int32} (ha : ws[q0]? = some (a, .inl (T 3, n, .inl f))) {i v : Int32} (hin : vp_in i n) (hv : f i.toNatClampNeg = v) (hdg : decode cc pc = .ok (.baload, 1))
    (kk : W p l e R s m args below meth c H locs cells slots Q (F0 m (pc + 1) ls (.int v :: rest))) : W p l e R s m args below meth c H locs cells slots Q (F0 m pc ls (.int i :: .ref a :: rest)) :=
  va_bald hC.1 hC.2.1 V.1 V.2.1 q0 3 ha rfl hin hdg (by rw [hv]; exact kk)
theorem g_aald (hC : cX p s m args meth c own cc nL rt) (V : gW D T A s ws H locs) (q0 t0 : Nat) {cA : ClassId} {C : String} {n : Nat} {f : Nat → Option Nat} (ha : ws[q0]? = some (a, .inl (cA, n, .inr (.inr (.inr (.inr f)))))) (ht : (ty6 T)[t0]? = some (cA, .object C)) {i : Int32} {v : Value} (hin : vp_in i n) (hv : va_rf (f i.toNatClampNeg) = v) (hdg : decode cc pc = .ok (.aaload, 1))
    (kk : W p l e R s m args below meth c H locs cells slots Q (F0 m (pc + 1) ls (v :: rest))) : W p l e R s m args below meth c H locs cells slots Q (F0 m pc ls (.int i :: .ref a :: rest)) :=
  va_aldq hC.1 hC.2.1 V.1 V.2.1 q0 t0 ha ht hin hdg (by rw [hv]; exact kk)
theorem g_alen (hC : cX p s m args meth c own cc nL rt) (V : gW D T A s ws H locs) (q0 t0 : Nat) {cA : ClassId} {x : vp_A} (ha : ws[q0]? = some (a, .inl (cA, x))) {ty : FieldType} (ht : (ty6 T)[t0]? = some (cA, ty)) (hdg : decode cc pc = .ok (.arraylength, 1))
    (kk : W p l e R s m args below meth c H locs cells slots Q (F0 m (pc + 1) ls (.int (nI x.1) :: rest))) : W p l e R s m args below meth c H locs cells slots Q (F0 m pc ls (.ref a :: rest)) :=
  va_alen hC.1 hC.2.1 V.1 V.2.1 q0 t0 ha ht rfl hdg kk
theorem g_iast (hC : cX p s m args meth c own cc nL rt) (V : gW D T A s ws H locs) (q0 : Nat) {n : Nat} {f f' : Nat → Int32} (ha : ws[q0]? = some (a, .inl (T 0, n, .inl f))) {i x : Int32} (hin : vp_in i n) (hf : upd f i.toNatClampNeg x = f') (hw : ws.set q0 (a, .inl (T 0, n, .inl f')) = ws') (hdg : decode cc pc = .ok (.iastore, 1))
    (kk : ∀ (H1 : Heap) (locs1 : List Loc), gW D T A s ws' H1 locs1 → W p l e R s m args below meth c H1 locs1 cells slots Q (F0 m (pc + 1) ls rest)) : W p l e R s m args below meth c H locs cells slots Q (F0 m pc ls (.int x :: .int i :: .ref a :: rest)) := by
  subst hf
  exact va_iast hC.1 hC.2.1 V.1 V.2.1 V.2.2.1 V.2.2.2.1 q0 0 ha rfl hin hdg (fun H1 locs1 h1 h2 h3 => kk H1 locs1 ⟨V.1, hw ▸ h1, hw ▸ h2, h3, V.2.2.2.2⟩)
end GR
