section GR
variable {p : Program} {l : Launch} {e : Env} {R : Room} {s : State} {m : MethodId} {args : Array Value} {below : List Frame} {meth : Method} {c : Code} {H : Heap} {locs : List Loc} {cells slots : Nat} {Q : State → Prop}
variable {own : String} {cc : ByteArray} {nL : Nat} {rt : Option FieldType} {pc : Nat} {ls : Array Slot} {rest : List Value} {D : va_G} {T : Nat → ClassId} {A : Nat → Prop} {a : Nat} {ws ws' : va_W}
theorem g_blind (as : List Value) (wc : va_W) (sz : Nat) : FrameBlind (va_Pc as (gP D T wc sz)) := fun a U g mk q => by
  obtain ⟨q0, q1, qP, qK, qD, qN⟩ := q
  exact ⟨q0, q1, qP, va_K.moved (u := U) (U := U.calling g mk a) (Vm.Alike.refl U.vm) qK, qD, nW.same (u := U) (U := U.calling g mk a) rfl qN.1, zW.same (u := U) (U := U.calling g mk a) rfl rfl qN.2⟩
theorem g_pre (V : gW D T A s ws H locs) (as : List Value) {wc : va_W} (isC : List Nat) (hnd : va_nd isC = true) (hCc : isC.map (fun i => ws[i]?) = wc.map some) : ∀ U : State, U.heap = H → s.WarmedH U.vm → va_Pc as (gP D T wc H.size) as.toArray U := fun U hU hW =>
  ⟨rfl, by rw [hU], by rw [hU]; exact V.2.1.subm isC hCc, va_K.moved hW.alike V.1, (V.2.2.1.sub isC hnd hCc).weaken (fun _ _ _ _ => trivial), V.2.2.2.2.2.1.warm hW, zW.call V.2.2.2.2.2.2 V.2.2.2.1 hU hW (va_free (wc := wc) V.2.2.1 V.2.2.2.1 V.2.2.2.2.1 isC hCc)⟩
end GR
