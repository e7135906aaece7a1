section GR
variable {p : Program} {l : Launch} {e : Env} {R : Room} {s : State} {m : MethodId} {args : Array Value} {below : List Frame} {meth : Method} {c : Code} {H : Heap} {locs : List Loc} {cells slots : Nat} {Q : State → Prop}
variable {own : String} {cc : ByteArray} {nL : Nat} {rt : Option FieldType} {pc : Nat} {ls : Array Slot} {rest : List Value} {D : va_G} {T : Nat → ClassId} {A : Nat → Prop} {a : Nat} {ws ws' : va_W}
variable {y : MethodName} {d k n : Nat} {b : Nat} {As : List Value} {wc wr : va_W} {Qr : Option Value → va_W → Prop} {bytes : ByteArray} {maxL index nA : Nat} {ret : Option FieldType} {C : String}
theorem g_scs (hC : cX p s m args meth c own cc nL rt) (V : gW D T A s ws H locs) (w : Cond.fieldLink own index "java/lang/String" "COMPACT_STRINGS" "Z" ∈ gT) (hdg : decode cc pc = .ok (.getstatic index, 3)) (kk : W p l e R s m args below meth c H locs cells slots Q (F0 m (pc + 3) ls (.int 1 :: rest))) : W p l e R s m args below meth c H locs cells slots Q (F0 m pc ls rest) :=
  va_gets hC.1 hC.2.1 V.2.2.2.2.2.2.2.1 V.2.2.2.1 hC.2.2.2.2.1 (hC.2.2.2.2.2.1 _ w) (fun _ h => h) hdg kk
theorem g_sfm (hC : cX p s m args meth c own cc nL rt) (V : gW D T A s ws H locs) (w : Cond.fieldLink own index "jdk/internal/util/Preconditions" "SIOOBE_FORMATTER" "Ljava/util/function/BiFunction;" ∈ gT) (hdg : decode cc pc = .ok (.getstatic index, 3)) (kk : ∀ t : Nat, W p l e R s m args below meth c H locs cells slots Q (F0 m (pc + 3) ls (.ref t :: rest))) (kn : W p l e R s m args below meth c H locs cells slots Q (F0 m (pc + 3) ls (.null :: rest))) : W p l e R s m args below meth c H locs cells slots Q (F0 m pc ls rest) := by
  rcases V.2.2.2.2.2.2.2.2.1 with h | ⟨t, h⟩
  · exact va_gets hC.1 hC.2.1 h V.2.2.2.1 hC.2.2.2.2.1 (hC.2.2.2.2.2.1 _ w) (fun _ h => h) hdg kn
  · exact va_gets hC.1 hC.2.1 h V.2.2.2.1 hC.2.2.2.2.1 (hC.2.2.2.2.2.1 _ w) (fun _ h => h) hdg (kk t)
theorem g_ldcS (hC : cX p s m args meth c own cc nL rt) (V : gW D T A s ws H locs) (si : Nat) {tx : String} (hq : sLs[si]? = some (own, index, tx)) (hdg : decode cc pc = .ok (.ldc index, 2)) (kk : W p l e R s m args below meth c H locs cells slots Q (F0 m (pc + 2) ls (.ref (D.2 9 si) :: rest))) : W p l e R s m args below meth c H locs cells slots Q (F0 m pc ls rest) :=
  va_ldcS hC.1 hC.2.1 hC.2.2.2.2.1 (V.2.2.2.2.2.2.2.2.2 si _ hq) hdg kk
end GR
