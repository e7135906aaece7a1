section GR
variable {p : Program} {l : Launch} {e : Env} {R : Room} {s : State} {m : MethodId} {args : Array Value} {below : List Frame} {meth : Method} {c : Code} {H : Heap} {locs : List Loc} {cells slots : Nat} {Q : State → Prop}
variable {own : String} {cc : ByteArray} {nL : Nat} {rt : Option FieldType} {pc : Nat} {ls : Array Slot} {rest : List Value} {D : va_G} {T : Nat → ClassId} {A : Nat → Prop} {a : Nat} {ws ws' : va_W}
variable {y : MethodName} {d k n : Nat} {b : Nat} {As : List Value} {wc wr : va_W} {Qr : Option Value → va_W → Prop} {bytes : ByteArray} {maxL index nA : Nat} {ret : Option FieldType} {C : String}
/-- the ends -/
theorem g_iret (hC : cX p s m args meth c own cc nL (some .int)) (V : gW D T A s ws H locs) {kc nc : Nat} (hk : cells ≤ kc ∧ slots ≤ nc) {v : Int32} (hq : Qr (some (.int v)) ws) (hdg : decode cc pc = .ok (.ireturn, 1)) : W p l e R s m args below meth c H locs cells slots (MQ below (gQ D A Qr) args s kc nc A) (F0 m pc ls [.int v]) :=
  W.widen hk.1 hk.2 (W.iret hC.1 hC.2.1 hC.2.2.1 (fun t ht hW => ⟨⟨_, ws, rfl, hq, by rw [ht]; exact V.2.1, V.2.2.1⟩, V.2.2.2.1.F ht⟩) V.2.2.2.1.2.2 hdg hC.2.2.2.2.2.2)
theorem g_zret (hC : cX p s m args meth c own cc nL (some .boolean)) (V : gW D T A s ws H locs) {kc nc : Nat} (hk : cells ≤ kc ∧ slots ≤ nc) {v : Int32} (hn : narrow .boolean (.int v) = .int v) (hq : Qr (some (.int v)) ws) (hdg : decode cc pc = .ok (.ireturn, 1)) : W p l e R s m args below meth c H locs cells slots (MQ below (gQ D A Qr) args s kc nc A) (F0 m pc ls [.int v]) :=
  W.widen hk.1 hk.2 (W.zret hC.1 hC.2.1 hC.2.2.1 hn (fun t ht hW => ⟨⟨_, ws, rfl, hq, by rw [ht]; exact V.2.1, V.2.2.1⟩, V.2.2.2.1.F ht⟩) V.2.2.2.1.2.2 hdg hC.2.2.2.2.2.2)
theorem g_lret (hC : cX p s m args meth c own cc nL (some .long)) (V : gW D T A s ws H locs) {kc nc : Nat} (hk : cells ≤ kc ∧ slots ≤ nc) {v : Int64} (hq : Qr (some (.long v)) ws) (hdg : decode cc pc = .ok (.lreturn, 1)) : W p l e R s m args below meth c H locs cells slots (MQ below (gQ D A Qr) args s kc nc A) (F0 m pc ls [.long v]) :=
  W.widen hk.1 hk.2 (W.lret hC.1 hC.2.1 hC.2.2.1 (fun t ht hW => ⟨⟨_, ws, rfl, hq, by rw [ht]; exact V.2.1, V.2.2.1⟩, V.2.2.2.1.F ht⟩) V.2.2.2.1.2.2 hdg hC.2.2.2.2.2.2)
end GR
