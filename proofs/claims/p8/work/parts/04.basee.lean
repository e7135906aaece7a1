section GR
variable {p : Program} {l : Launch} {e : Env} {R : Room} {s : State} {m : MethodId} {args : Array Value} {below : List Frame} {meth : Method} {c : Code} {H : Heap} {locs : List Loc} {cells slots : Nat} {Q : State → Prop}
variable {own : String} {cc : ByteArray} {nL : Nat} {rt : Option FieldType} {pc : Nat} {ls : Array Slot} {rest : List Value} {D : va_G} {T : Nat → ClassId} {A : Nat → Prop} {a : Nat} {ws ws' : va_W}
theorem g_last (hC : cX p s m args meth c own cc nL rt) (V : gW D T A s ws H locs) (q0 : Nat) {n : Nat} {f f' : Nat → Int64} (ha : ws[q0]? = some (a, .inl (T 1, n, .inr (.inl f)))) {i : Int32} {x : Int64} (hin : vp_in i n) (hf : vp_updL f i.toNatClampNeg x = f') (hw : ws.set q0 (a, .inl (T 1, n, .inr (.inl f'))) = ws') (hdg : decode cc pc = .ok (.lastore, 1))
    (kk : ∀ (H1 : Heap) (locs1 : List Loc), gW D T A s ws' H1 locs1 → W p l e R s m args below meth c H1 locs1 cells slots Q (F0 m (pc + 1) ls rest)) : W p l e R s m args below meth c H locs cells slots Q (F0 m pc ls (.long x :: .int i :: .ref a :: rest)) := by
  subst hf
  exact va_last hC.1 hC.2.1 V.1 V.2.1 V.2.2.1 V.2.2.2.1 q0 1 ha rfl hin hdg (fun H1 locs1 h1 h2 h3 => kk H1 locs1 ⟨V.1, hw ▸ h1, hw ▸ h2, h3, V.2.2.2.2⟩)
theorem g_zast (hC : cX p s m args meth c own cc nL rt) (V : gW D T A s ws H locs) (q0 : Nat) {n : Nat} {f f' : Nat → Int32} (ha : ws[q0]? = some (a, .inl (T 2, n, .inl f))) {i x : Int32} (hin : vp_in i n) (hf : upd f i.toNatClampNeg (vp_nar .boolean x) = f') (hw : ws.set q0 (a, .inl (T 2, n, .inl f')) = ws') (hdg : decode cc pc = .ok (.bastore, 1))
    (kk : ∀ (H1 : Heap) (locs1 : List Loc), gW D T A s ws' H1 locs1 → W p l e R s m args below meth c H1 locs1 cells slots Q (F0 m (pc + 1) ls rest)) : W p l e R s m args below meth c H locs cells slots Q (F0 m pc ls (.int x :: .int i :: .ref a :: rest)) := by
  subst hf
  exact va_zast hC.1 hC.2.1 V.1 V.2.1 V.2.2.1 V.2.2.2.1 q0 2 ha rfl hin hdg (fun H1 locs1 h1 h2 h3 => kk H1 locs1 ⟨V.1, hw ▸ h1, hw ▸ h2, h3, V.2.2.2.2⟩)
theorem g_bast (hC : cX p s m args meth c own cc nL rt) (V : gW D T A s ws H locs) (q0 : Nat) {n : Nat} {f f' : Nat → Int32} (ha : ws[q0]? = some (a, .inl (T 3, n, .inl f))) {i x : Int32} (hin : vp_in i n) (hf : upd f i.toNatClampNeg (vp_nar .byte x) = f') (hw : ws.set q0 (a, .inl (T 3, n, .inl f')) = ws') (hdg : decode cc pc = .ok (.bastore, 1))
    (kk : ∀ (H1 : Heap) (locs1 : List Loc), gW D T A s ws' H1 locs1 → W p l e R s m args below meth c H1 locs1 cells slots Q (F0 m (pc + 1) ls rest)) : W p l e R s m args below meth c H locs cells slots Q (F0 m pc ls (.int x :: .int i :: .ref a :: rest)) := by
  subst hf
  exact va_bast hC.1 hC.2.1 V.1 V.2.1 V.2.2.1 V.2.2.2.1 q0 3 ha rfl hin hdg (fun H1 locs1 h1 h2 h3 => kk H1 locs1 ⟨V.1, hw ▸ h1, hw ▸ h2, h3, V.2.2.2.2⟩)
theorem g_aast (hC : cX p s m args meth c own cc nL rt) (V : gW D T A s ws H locs) (q0 t0 qk ci : Nat) {cA : ClassId} {r : vw_C} {n v : Nat} {vs : List Value} {f f' : Nat → Option Nat} (ha : ws[q0]? = some (a, .inl (cA, n, .inr (.inr (.inr (.inr f)))))) (ht : (ty6 T)[t0]? = some (cA, .object r.1)) (hv : ws[qk]? = some (v, .inr (ci, vs))) (hc : vwCl[ci]? = some r) {i : Int32} (hin : vp_in i n) (hf : va_up f i.toNatClampNeg (some v) = f') (hw : ws.set q0 (a, .inl (cA, n, .inr (.inr (.inr (.inr f'))))) = ws') (hdg : decode cc pc = .ok (.aastore, 1))
    (kk : ∀ (H1 : Heap) (locs1 : List Loc), gW D T A s ws' H1 locs1 → W p l e R s m args below meth c H1 locs1 cells slots Q (F0 m (pc + 1) ls rest)) : W p l e R s m args below meth c H locs cells slots Q (F0 m pc ls (.ref v :: .int i :: .ref a :: rest)) := by
  subst hf
  exact va_astq hC.1 hC.2.1 V.1 V.2.1 V.2.2.1 V.2.2.2.1 q0 t0 qk ci ha ht hv hc hin hdg (fun H1 locs1 h1 h2 h3 => kk H1 locs1 ⟨V.1, hw ▸ h1, hw ▸ h2, h3, V.2.2.2.2⟩)
end GR
