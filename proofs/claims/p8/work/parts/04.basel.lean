section GR
variable {p : Program} {l : Launch} {e : Env} {R : Room} {s : State} {m : MethodId} {args : Array Value} {below : List Frame} {meth : Method} {c : Code} {H : Heap} {locs : List Loc} {cells slots : Nat} {Q : State → Prop}
variable {own : String} {cc : ByteArray} {nL : Nat} {rt : Option FieldType} {pc : Nat} {ls : Array Slot} {rest : List Value} {D : va_G} {T : Nat → ClassId} {A : Nat → Prop} {a : Nat} {ws ws' : va_W}
variable {y : MethodName} {d k n : Nat} {b : Nat} {As : List Value} {wc wr : va_W} {Qr : Option Value → va_W → Prop} {bytes : ByteArray} {maxL index nA : Nat} {ret : Option FieldType} {C : String}
theorem g_scod (hC : cX p s m args meth c own cc nL rt) (V : gW D T A s ws H locs) {si : Nat} (hsi : si < 9) (w : Cond.fieldLink own index "java/lang/String" "coder" "B" ∈ gT) (hdg : decode cc pc = .ok (.getfield index, 3)) (kk : W p l e R s m args below meth c H locs cells slots Q (F0 m (pc + 3) ls (.int 0 :: rest))) : W p l e R s m args below meth c H locs cells slots Q (F0 m pc ls (.ref (D.2 9 si) :: rest)) :=
  vk_getf hC.1 hC.2.1 (V.2.2.2.2.2.2.1.1 si hsi).2.1 V.2.2.2.1 hC.2.2.2.2.1 (hC.2.2.2.2.2.1 _ w) (fun _ h => h) hdg kk
theorem g_slen (hC : cX p s m args meth c own cc nL rt) (V : gW D T A s ws H locs) {si : Nat} (hsi : si < 9) (hdg : decode cc pc = .ok (.arraylength, 1)) (kk : W p l e R s m args below meth c H locs cells slots Q (F0 m (pc + 1) ls (.int (nI (sLen.getD si 0)) :: rest))) : W p l e R s m args below meth c H locs cells slots Q (F0 m pc ls (.ref (D.2 10 si) :: rest)) :=
  va_tlen hC.1 hC.2.1 (V.2.2.2.2.2.2.1.1 si hsi).2.2.2 V.2.2.2.1 rfl hdg kk
theorem g_sbyt (hC : cX p s m args meth c own cc nL rt) (V : gW D T A s ws H locs) {si j : Nat} (hsi : si < 9) (hj : j < sLen.getD si 0) (hj2 : sLen.getD si 0 < 2147483648) (hdg : decode cc pc = .ok (.baload, 1)) (kk : W p l e R s m args below meth c H locs cells slots Q (F0 m (pc + 1) ls (.int ((sByt.getD si []).getD j 0) :: rest))) : W p l e R s m args below meth c H locs cells slots Q (F0 m pc ls (.int (nI j) :: .ref (D.2 10 si) :: rest)) :=
  va_tb hC.1 hC.2.1 (V.2.2.2.2.2.2.1.1 si hsi).2.2.2 V.2.2.2.1 (vp_in_nI hj hj2) (by rw [nI_clamp (by omega)]) hdg kk
end GR
