/-! ===== a layer of my own over the kit: one world word (gW), one contract word (Ct), a row for each heap instruction and call ===== -/
/-- the links to private members of nest mates, and the two array classes of objects: no words of lists, so they go along with the state -/
def nLs : List (String × Nat × MethodName × String) := [(RX7, 245, yX4_init, RX7), (RX7, 35, yX2_init, RX7), (RX7, 42, yX6_init, RX7), (RX7, 49, yX3_init, RX7), (RX7, 56, yX0_init, RX7), (RX7, 61, yX1_init, RX7), (RX7, 9, yX5_init, RX7), (RX0, 43, yX7_isIn, RX7), (RX2, 132, yX7_isWithin, RX7), (RX3, 63, yX7_bounded, RX7), (RX3, 77, yX7_isIn, RX7), (RX4, 101, yX7_bounded, RX7), (RX4, 109, yX7_isIn, RX7), (RX5, 70, yX7_isIn, RX7), (RX5, 77, yX7_bounded, RX7)]
def nW (U : State) : Prop := (∀ q ∈ nLs, va_Nw (.methodLinkNest q.1 q.2.1 q.2.2.1 q.2.2.2) U) ∧ va_AO RX5 U ∧ va_AO RX1 U
theorem nW.same {u U : State} (h : u.vm = U.vm) (hn : nW u) : nW U := ⟨fun q hq => (hn.1 q hq).same rfl h, va_AO.moved (h ▸ Vm.Alike.refl u.vm) hn.2.1, va_AO.moved (h ▸ Vm.Alike.refl u.vm) hn.2.2⟩
theorem nW.warm {u U : State} (hW : u.WarmedH U.vm) (hn : nW u) : nW U := ⟨fun q hq => (hn.1 q hq).warmM hW, va_AO.moved hW.alike hn.2.1, va_AO.moved hW.alike hn.2.2⟩
/-- the string constants by their places (D.2 9: their addresses, D.2 10: their bytes'), and two statics of the JDK: they are old cells, which nothing here writes -/
def sLs : List (String × Nat × String) := [(RX2, 58, "smith"), (RX2, 103, "cool"), (RX2, 111, "heat"), (RX2, 115, "low"), (RX2, 119, "high"), (RX2, 123, "piece"), (RX2, 68, "blows"), (RX2, 73, "burnt"), (RX8, 70, " smith cool heat low high piece blows burnt ")]
def sLen : List Nat := [5, 4, 4, 3, 4, 5, 5, 5, 44]
def sByt : List (List Int32) := [[115, 109, 105, 116, 104], [99, 111, 111, 108], [104, 101, 97, 116], [108, 111, 119], [104, 105, 103, 104], [112, 105, 101, 99, 101], [98, 108, 111, 119, 115], [98, 117, 114, 110, 116], [32, 115, 109, 105, 116, 104, 32, 99, 111, 111, 108, 32, 104, 101, 97, 116, 32, 108, 111, 119, 32, 104, 105, 103, 104, 32, 112, 105, 101, 99, 101, 32, 98, 108, 111, 119, 115, 32, 98, 117, 114, 110, 116, 32]]
def zW (D : va_G) (A : Nat → Prop) (U : State) : Prop := vk_S 9 sLen sByt (D.2 9) (D.2 10) A U U.heap ∧ va_Z "java/lang/String" "COMPACT_STRINGS" "Z" (.int 1) A U U.heap ∧ va_Zq "jdk/internal/util/Preconditions" "SIOOBE_FORMATTER" "Ljava/util/function/BiFunction;" A U U.heap ∧ ∀ (i : Nat) (q : String × Nat × String), sLs[i]? = some q → vk_R q.1 q.2.1 q.2.2 (D.2 9 i) U
theorem zW.call {D : va_G} {A B : Nat → Prop} {s U : State} {H : Heap} {locs : List Loc} (hz : zW D A s) (hS : va_S A s.heap H locs) (hU : U.heap = H) (hW : s.WarmedH U.vm) (hAB : ∀ q, B q → A q) : zW D B U := by
  subst hU
  exact ⟨vk_S.narrow (vk_S.moved hW.alike (hz.1.kept hS.2.1)) hAB, va_Z.narrow (va_Z.moved hW.alike (hz.2.1.kept hS.2.1)) hAB, va_Zq.narrow (va_Zq.moved hW.alike (hz.2.2.1.kept hS.2.1)) hAB, fun i q h => (hz.2.2.2 i q h).warm hW⟩
theorem zW.same {D : va_G} {A : Nat → Prop} {u U : State} (hv : U.vm = u.vm) (hh : U.heap = u.heap) (hz : zW D A u) : zW D A U := by
  have ha : u.vm.Alike U.vm := hv ▸ Vm.Alike.refl u.vm
  unfold zW
  rw [hh]
  exact ⟨vk_S.moved ha hz.1, va_Z.moved ha hz.2.1, va_Zq.moved ha hz.2.2.1, fun i q h => (hz.2.2.2 i q h).same hv⟩
/-- the array classes of the program -/
abbrev ty6 (T : Nat → ClassId) : List (ClassId × FieldType) := [(T 0, .int), (T 1, .long), (T 2, .boolean), (T 3, .byte), (T 4, .object RX5), (T 5, .object RX1)]
theorem g_good {ws : List Cond} (h : ∀ w ∈ ws, w ∈ gT) : GoodIn gT ws := fun w hw => ⟨h w hw, good_of_word (gT_good w (h w hw))⟩
/-- a world: tables, cells, apartness, what has changed since the method's start -/
def gW (D : va_G) (T : Nat → ClassId) (A : Nat → Prop) (s : State) (ws : va_W) (H : Heap) (locs : List Loc) : Prop :=
  va_K D vwCl (ty6 T) s ∧ va_P D vwCl ws H ∧ va_D A ws ∧ va_S A s.heap H locs ∧ (∀ q, s.heap.size ≤ q → A q) ∧ nW s ∧ zW D A s
theorem va_P.subm {D : va_G} {cl : List vw_C} {ws ws' : va_W} {H : Heap} (h : va_P D cl ws H) (is : List Nat) (hs : is.map (fun i => ws[i]?) = ws'.map some) : va_P D cl ws' H := by
  intro k q hk
  have h1 : (ws'.map some)[k]? = some (some q) := by rw [List.getElem?_map, hk]; rfl
  rw [← hs, List.getElem?_map] at h1
  cases h2 : is[k]? with
  | none => rw [h2] at h1; cases h1
  | some i => rw [h2] at h1; exact h i q (Option.some.inj h1)
theorem gW.sub {D : va_G} {T : Nat → ClassId} {A : Nat → Prop} {s : State} {ws ws' : va_W} {H : Heap} {locs : List Loc} (V : gW D T A s ws H locs) (is : List Nat) (hn : va_nd is = true) (hs : is.map (fun i => ws[i]?) = ws'.map some) : gW D T A s ws' H locs :=
  ⟨V.1, V.2.1.subm is hs, V.2.2.1.sub is hn hs, V.2.2.2⟩
theorem gW.eq {D : va_G} {T : Nat → ClassId} {A : Nat → Prop} {s : State} {ws ws' : va_W} {H : Heap} {locs : List Loc} (V : gW D T A s ws H locs) (h : ws = ws') : gW D T A s ws' H locs := h ▸ V
/-- the context of a method's body -/
def cX (p : Program) (s : State) (m : MethodId) (args : Array Value) (meth : Method) (c : Code) (own : String) (cc : ByteArray) (nL : Nat) (rt : Option FieldType) : Prop :=
  p.tables.exec = Jvm.exec ∧ c.code = cc ∧ meth.sig.returnType = rt ∧ c.maxLocals = nL ∧ s.vm.findClass own = some m.cls ∧ (∀ w ∈ gT, w.before args s = true) ∧ meth.locks = false
/-- the room of a method whose calls go d deep, and that makes k cells of n slots -/
abbrev rmD (d k n : Nat) : Room := { frames := d, cells := k, slots := n, locals := 64 * d }
/-- a contract's start and end, and the contract -/
def gP (D : va_G) (T : Nat → ClassId) (wc : va_W) (sz : Nat) : State → Prop := fun U => U.heap.size = sz ∧ va_P D vwCl wc U.heap ∧ va_K D vwCl (ty6 T) U ∧ va_D (fun _ => True) wc ∧ nW U ∧ zW D (va_A wc sz) U
def gQ (D : va_G) (A : Nat → Prop) (Qr : Option Value → va_W → Prop) : Array Value → State → Outcome → State → Prop := fun _ st oc t => (∃ (r : Option Value) (w1 : va_W), oc = .returned r ∧ Qr r w1 ∧ va_P D vwCl w1 t.heap ∧ va_D A w1) ∧ va_F A st t
def Ct (l : Launch) (y : MethodName) (cc : ByteArray) (maxL : Nat) (ret : Option FieldType) (d k n : Nat) (D : va_G) (T : Nat → ClassId) (as : List Value) (wc : va_W) (Qr : Option Value → va_W → Prop) : Prop :=
  ∀ sz : Nat, Met l y (Cond.code y cc maxL ret :: gT) (rmD d k n) (va_Pc as (gP D T wc sz)) (gQ D (va_A wc sz) Qr) k n (va_A wc sz)
/-- a contract out of the walk of its body -/
theorem Ct.of {l : Launch} {y : MethodName} {d k n : Nat} {D : va_G} {T : Nat → ClassId} {as : List Value} {wc : va_W} {Qr : Option Value → va_W → Prop} {cc : ByteArray} {maxL : Nat} {ret : Option FieldType}
    (hy : plainName y.cls = true) (hle : (lg_sl as).length ≤ maxL)
    (body : ∀ (p : Program) (e : Env) (s : State) (m : MethodId) (args : Array Value) (below : List Frame) (meth : Method) (c : Code) (A : Nat → Prop) (ls : Array Slot), cX p s m args meth c y.cls cc maxL ret → meth.name = y.name → gW D T A s wc s.heap [] → lv_has ls maxL (lv_args 0 as) →
      W p l e (rmD d k n) s m args below meth c s.heap [] 0 0 (MQ below (gQ D A Qr) args s k n A) (F0 m 0 ls [])) : Ct l y cc maxL ret d k n D T as wc Qr := by
  intro sz
  refine Met.ofW (cc := cc) (maxL := maxL) (ret := ret) hy rfl ?_
  intro p e s m args below meth c s₁ B hml hv
  obtain ⟨rfl, hsz, hP, hK, hD0, hN⟩ := hv
  subst hsz
  have hl := lv_entry as (n := maxL) hle
  rw [lg_entry_eq]
  refine body p e s m _ below meth c _ _ ⟨B.exec, B.bytes, B.returns, hml, findClass_of_methodNamed B.named, fun w h => atoms_spec (ws := Cond.code y cc maxL ret :: gT) B.pre w (List.mem_cons_of_mem _ h), B.notSynchronized⟩ (name_of_methodNamed B.named B.method).1 ⟨hK, hP, hD0.self, va_S.rf, fun q h => Or.inr h, hN⟩ hl
theorem b_eq {a b : Nat} (ha : a < 2147483648) (hb : b < 2147483648) (h : nI a = nI b) : a = b := (nI_eq ha hb).mp h
theorem b_ne {a b : Nat} (_ : a < 2147483648) (_ : b < 2147483648) (h : ¬ nI a = nI b) : a ≠ b := fun e => h (by rw [e])
theorem b_lt {a b : Nat} (ha : a < 2147483648) (hb : b < 2147483648) (h : nI a < nI b) : a < b := (nI_ltI ha hb).mp h
theorem b_nlt {a b : Nat} (ha : a < 2147483648) (hb : b < 2147483648) (h : ¬ nI a < nI b) : b ≤ a := Nat.le_of_not_lt (fun e => h ((nI_ltI ha hb).mpr e))
theorem b_le {a b : Nat} (ha : a < 2147483648) (hb : b < 2147483648) (h : nI a ≤ nI b) : a ≤ b := (nI_leI ha hb).mp h
theorem b_nle {a b : Nat} (ha : a < 2147483648) (hb : b < 2147483648) (h : ¬ nI a ≤ nI b) : b < a := Nat.lt_of_not_le (fun e => h ((nI_leI ha hb).mpr e))
theorem g_out {x : Int32} (lo hi : Int) (f : ∀ k : Int, lo ≤ k → k ≤ hi → x.toInt ≠ k) : x.toInt < lo ∨ hi < x.toInt := by
  rcases Int.lt_or_le x.toInt lo with h | h
  · exact Or.inl h
  · rcases Int.lt_or_le hi x.toInt with h2 | h2
    · exact Or.inr h2
    · exact absurd rfl (f x.toInt h h2)
theorem g_out2 {x y : Int32} {n : Int} (h : x.toInt = n) (hy : y.toInt = n) : x = y := Int32.toInt_inj.mp (h.trans hy.symm)
section GR
variable {p : Program} {l : Launch} {e : Env} {R : Room} {s : State} {m : MethodId} {args : Array Value} {below : List Frame} {meth : Method} {c : Code} {H : Heap} {locs : List Loc} {cells slots : Nat} {Q : State → Prop}
variable {own : String} {cc : ByteArray} {nL : Nat} {rt : Option FieldType} {pc : Nat} {ls : Array Slot} {rest : List Value} {D : va_G} {T : Nat → ClassId} {A : Nat → Prop} {a : Nat} {ws ws' : va_W}
/-- a value under another name -/
theorem g_vi {x y : Int32} (h : x = y) (k : W p l e R s m args below meth c H locs cells slots Q (F0 m pc ls (.int y :: rest))) : W p l e R s m args below meth c H locs cells slots Q (F0 m pc ls (.int x :: rest)) := h ▸ k
theorem g_vl {x y : Int64} (h : x = y) (k : W p l e R s m args below meth c H locs cells slots Q (F0 m pc ls (.long y :: rest))) : W p l e R s m args below meth c H locs cells slots Q (F0 m pc ls (.long x :: rest)) := h ▸ k
theorem g_get (hC : cX p s m args meth c own cc nL rt) (V : gW D T A s ws H locs) {C ref : String} {TT : u_T} {N ci index : Nat} (hin : ∀ w ∈ u_ws C TT N, w ∈ gT) (q0 : Nat) {fs : List Value} (he : ws[q0]? = some (a, .inr (ci, fs))) (hc : vwCl[ci]? = some (C, TT, N)) (k : Nat) (hk : k < N) (hlink : Cond.fieldLink own index ref (TT k).2.1 (TT k).2.2.1 ∈ gT) (href : (TT k).1 = ref) {v : Value} (hv : fs[k]? = some v) (hdg : decode cc pc = .ok (.getfield index, 3))
    (kk : W p l e R s m args below meth c H locs cells slots Q (F0 m (pc + 3) ls (v :: rest))) : W p l e R s m args below meth c H locs cells slots Q (F0 m pc ls (.ref a :: rest)) :=
  va_get hC.1 hC.2.1 hC.2.2.2.2.2.1 hin hC.2.2.2.2.1 V.1 V.2.1 q0 he hc k hk (hC.2.2.2.2.2.1 _ hlink) (fun _ h => href ▸ h) hv hdg kk
theorem g_put (hC : cX p s m args meth c own cc nL rt) (V : gW D T A s ws H locs) {C ref : String} {TT : u_T} {N ci index : Nat} (hin : ∀ w ∈ u_ws C TT N, w ∈ gT) (ty0 : Nat → FieldType) (hty : ∀ k, k < N → parseFieldDescriptor (TT k).2.2.1 = some (ty0 k)) (hnm : ∀ a, a < N → ∀ b, b < N → a ≠ b → (TT a).2.1 ≠ (TT b).2.1) (q0 : Nat) {fs : List Value} (he : ws[q0]? = some (a, .inr (ci, fs))) (hc : vwCl[ci]? = some (C, TT, N)) (k : Nat) (hk : k < N) (hlink : Cond.fieldLink own index ref (TT k).2.1 (TT k).2.2.1 ∈ gT) (href : (TT k).1 = ref) (hfin : (TT k).2.2.2 = false) {v : Value} (hn : narrow (ty0 k) v = v) (hfit : fits (ty0 k) v = true) (hl : k < fs.length) (hw : ws.set q0 (a, .inr (ci, fs.set k v)) = ws') (hdg : decode cc pc = .ok (.putfield index, 3))
    (kk : ∀ (H1 : Heap) (locs1 : List Loc), gW D T A s ws' H1 locs1 → W p l e R s m args below meth c H1 locs1 cells slots Q (F0 m (pc + 3) ls rest)) : W p l e R s m args below meth c H locs cells slots Q (F0 m pc ls (v :: .ref a :: rest)) :=
  va_put hC.1 hC.2.1 hC.2.2.2.2.2.1 hin ty0 hty hnm hC.2.2.2.2.1 V.1 V.2.1 V.2.2.1 V.2.2.2.1 q0 he hc k hk (hC.2.2.2.2.2.1 _ hlink) (fun _ h => href ▸ h) hfin (hty k hk) hn hfit hl hdg (fun H1 locs1 h1 h2 h3 => kk H1 locs1 ⟨V.1, hw ▸ h1, hw ▸ h2, h3, V.2.2.2.2⟩)
theorem g_putF (hC : cX p s m args meth c own cc nL rt) (hnn : meth.name = "<init>") (V : gW D T A s ws H locs) {C ref : String} {TT : u_T} {N ci index : Nat} (hin : ∀ w ∈ u_ws C TT N, w ∈ gT) (ty0 : Nat → FieldType) (hty : ∀ k, k < N → parseFieldDescriptor (TT k).2.2.1 = some (ty0 k)) (hnm : ∀ a, a < N → ∀ b, b < N → a ≠ b → (TT a).2.1 ≠ (TT b).2.1) (q0 : Nat) {fs : List Value} (he : ws[q0]? = some (a, .inr (ci, fs))) (hc : vwCl[ci]? = some (C, TT, N)) (k : Nat) (hk : k < N) (hlink : Cond.fieldLink own index ref (TT k).2.1 (TT k).2.2.1 ∈ gT) (href : (TT k).1 = ref) (hfin : (TT k).2.2.2 = true) (hdecl : (TT k).1 = own) {v : Value} (hn : narrow (ty0 k) v = v) (hfit : fits (ty0 k) v = true) (hl : k < fs.length) (hw : ws.set q0 (a, .inr (ci, fs.set k v)) = ws') (hdg : decode cc pc = .ok (.putfield index, 3))
    (kk : ∀ (H1 : Heap) (locs1 : List Loc), gW D T A s ws' H1 locs1 → W p l e R s m args below meth c H1 locs1 cells slots Q (F0 m (pc + 3) ls rest)) : W p l e R s m args below meth c H locs cells slots Q (F0 m pc ls (v :: .ref a :: rest)) :=
  va_putF hC.1 hC.2.1 hC.2.2.2.2.2.1 hin ty0 hty hnm hC.2.2.2.2.1 V.1 V.2.1 V.2.2.1 V.2.2.2.1 q0 he hc k hk (hC.2.2.2.2.2.1 _ hlink) (fun _ h => href ▸ h) hfin hnn hdecl (hty k hk) hn hfit hl hdg (fun H1 locs1 h1 h2 h3 => kk H1 locs1 ⟨V.1, hw ▸ h1, hw ▸ h2, h3, V.2.2.2.2⟩)
theorem g_iald (hC : cX p s m args meth c own cc nL rt) (V : gW D T A s ws H locs) (q0 : Nat) {n : Nat} {f : Nat → Int32} (ha : ws[q0]? = some (a, .inl (T 0, n, .inl f))) {i v : Int32} (hin : vp_in i n) (hv : f i.toNatClampNeg = v) (hdg : decode cc pc = .ok (.iaload, 1))
    (kk : W p l e R s m args below meth c H locs cells slots Q (F0 m (pc + 1) ls (.int v :: rest))) : W p l e R s m args below meth c H locs cells slots Q (F0 m pc ls (.int i :: .ref a :: rest)) :=
  va_iald hC.1 hC.2.1 V.1 V.2.1 q0 0 ha rfl hin hdg (by rw [hv]; exact kk)
theorem g_lald (hC : cX p s m args meth c own cc nL rt) (V : gW D T A s ws H locs) (q0 : Nat) {n : Nat} {f : Nat → Int64} (ha : ws[q0]? = some (a, .inl (T 1, n, .inr (.inl f)))) {i : Int32} {v : Int64} (hin : vp_in i n) (hv : f i.toNatClampNeg = v) (hdg : decode cc pc = .ok (.laload, 1))
    (kk : W p l e R s m args below meth c H locs cells slots Q (F0 m (pc + 1) ls (.long v :: rest))) : W p l e R s m args below meth c H locs cells slots Q (F0 m pc ls (.int i :: .ref a :: rest)) :=
  va_lald hC.1 hC.2.1 V.1 V.2.1 q0 1 ha rfl hin hdg (by rw [hv]; exact kk)
theorem g_zald (hC : cX p s m args meth c own cc nL rt) (V : gW D T A s ws H locs) (q0 : Nat) {n : Nat} {f : Nat → Int32} (ha : ws[q0]? = some (a, .inl (T 2, n, .inl f))) {i v : Int32} (hin : vp_in i n) (hv : f i.toNatClampNeg = v) (hdg : decode cc pc = .ok (.baload, 1))
    (kk : W p l e R s m args below meth c H locs cells slots Q (F0 m (pc + 1) ls (.int v :: rest))) : W p l e R s m args below meth c H locs cells slots Q (F0 m pc ls (.int i :: .ref a :: rest)) :=
  va_zald hC.1 hC.2.1 V.1 V.2.1 q0 2 ha rfl hin hdg (by rw [hv]; exact kk)
theorem g_bald (hC : cX p s m args meth c own cc nL rt) (V : gW D T A s ws H locs) (q0 : Nat) {n : Nat} {f : Nat → Int32} (ha : ws[q0]? = some (a, .inl (T 3, n, .inl f))) {i v : Int32} (hin : vp_in i n) (hv : f i.toNatClampNeg = v) (hdg : decode cc pc = .ok (.baload, 1))
    (kk : W p l e R s m args below meth c H locs cells slots Q (F0 m (pc + 1) ls (.int v :: rest))) : W p l e R s m args below meth c H locs cells slots Q (F0 m pc ls (.int i :: .ref a :: rest)) :=
  va_bald hC.1 hC.2.1 V.1 V.2.1 q0 3 ha rfl hin hdg (by rw [hv]; exact kk)
theorem g_aald (hC : cX p s m args meth c own cc nL rt) (V : gW D T A s ws H locs) (q0 t0 : Nat) {cA : ClassId} {C : String} {n : Nat} {f : Nat → Option Nat} (ha : ws[q0]? = some (a, .inl (cA, n, .inr (.inr (.inr (.inr f)))))) (ht : (ty6 T)[t0]? = some (cA, .object C)) {i : Int32} {v : Value} (hin : vp_in i n) (hv : va_rf (f i.toNatClampNeg) = v) (hdg : decode cc pc = .ok (.aaload, 1))
    (kk : W p l e R s m args below meth c H locs cells slots Q (F0 m (pc + 1) ls (v :: rest))) : W p l e R s m args below meth c H locs cells slots Q (F0 m pc ls (.int i :: .ref a :: rest)) :=
  va_aldq hC.1 hC.2.1 V.1 V.2.1 q0 t0 ha ht hin hdg (by rw [hv]; exact kk)
theorem g_alen (hC : cX p s m args meth c own cc nL rt) (V : gW D T A s ws H locs) (q0 t0 : Nat) {cA : ClassId} {x : vp_A} (ha : ws[q0]? = some (a, .inl (cA, x))) {ty : FieldType} (ht : (ty6 T)[t0]? = some (cA, ty)) (hdg : decode cc pc = .ok (.arraylength, 1))
    (kk : W p l e R s m args below meth c H locs cells slots Q (F0 m (pc + 1) ls (.int (nI x.1) :: rest))) : W p l e R s m args below meth c H locs cells slots Q (F0 m pc ls (.ref a :: rest)) :=
  va_alen hC.1 hC.2.1 V.1 V.2.1 q0 t0 ha ht rfl hdg kk
theorem g_iast (hC : cX p s m args meth c own cc nL rt) (V : gW D T A s ws H locs) (q0 : Nat) {n : Nat} {f f' : Nat → Int32} (ha : ws[q0]? = some (a, .inl (T 0, n, .inl f))) {i x : Int32} (hin : vp_in i n) (hf : upd f i.toNatClampNeg x = f') (hw : ws.set q0 (a, .inl (T 0, n, .inl f')) = ws') (hdg : decode cc pc = .ok (.iastore, 1))
    (kk : ∀ (H1 : Heap) (locs1 : List Loc), gW D T A s ws' H1 locs1 → W p l e R s m args below meth c H1 locs1 cells slots Q (F0 m (pc + 1) ls rest)) : W p l e R s m args below meth c H locs cells slots Q (F0 m pc ls (.int x :: .int i :: .ref a :: rest)) := by
  subst hf
  exact va_iast hC.1 hC.2.1 V.1 V.2.1 V.2.2.1 V.2.2.2.1 q0 0 ha rfl hin hdg (fun H1 locs1 h1 h2 h3 => kk H1 locs1 ⟨V.1, hw ▸ h1, hw ▸ h2, h3, V.2.2.2.2⟩)
theorem g_last (hC : cX p s m args meth c own cc nL rt) (V : gW D T A s ws H locs) (q0 : Nat) {n : Nat} {f f' : Nat → Int64} (ha : ws[q0]? = some (a, .inl (T 1, n, .inr (.inl f)))) {i : Int32} {x : Int64} (hin : vp_in i n) (hf : vp_updL f i.toNatClampNeg x = f') (hw : ws.set q0 (a, .inl (T 1, n, .inr (.inl f'))) = ws') (hdg : decode cc pc = .ok (.lastore, 1))
    (kk : ∀ (H1 : Heap) (locs1 : List Loc), gW D T A s ws' H1 locs1 → W p l e R s m args below meth c H1 locs1 cells slots Q (F0 m (pc + 1) ls rest)) : W p l e R s m args below meth c H locs cells slots Q (F0 m pc ls (.long x :: .int i :: .ref a :: rest)) := by
  subst hf
  exact va_last hC.1 hC.2.1 V.1 V.2.1 V.2.2.1 V.2.2.2.1 q0 1 ha rfl hin hdg (fun H1 locs1 h1 h2 h3 => kk H1 locs1 ⟨V.1, hw ▸ h1, hw ▸ h2, h3, V.2.2.2.2⟩)
theorem g_zast (hC : cX p s m args meth c own cc nL rt) (V : gW D T A s ws H locs) (q0 : Nat) {n : Nat} {f f' : Nat → Int32} (ha : ws[q0]? = some (a, .inl (T 2, n, .inl f))) {i x : Int32} (hin : vp_in i n) (hf : upd f i.toNatClampNeg (vp_nar .boolean x) = f') (hw : ws.set q0 (a, .inl (T 2, n, .inl f')) = ws') (hdg : decode cc pc = .ok (.bastore, 1))
    (kk : ∀ (H1 : Heap) (locs1 : List Loc), gW D T A s ws' H1 locs1 → W p l e R s m args below meth c H1 locs1 cells slots Q (F0 m (pc + 1) ls rest)) : W p l e R s m args below meth c H locs cells slots Q (F0 m pc ls (.int x :: .int i :: .ref a :: rest)) := by
  subst hf
  exact va_zast hC.1 hC.2.1 V.1 V.2.1 V.2.2.1 V.2.2.2.1 q0 2 ha rfl hin hdg (fun H1 locs1 h1 h2 h3 => kk H1 locs1 ⟨V.1, hw ▸ h1, hw ▸ h2, h3, V.2.2.2.2⟩)
theorem g_bast (hC : cX p s m args meth c own cc nL rt) (V : gW D T A s ws H locs) (q0 : Nat) {n : Nat} {f f' : Nat → Int32} (ha : ws[q0]? = some (a, .inl (T 3, n, .inl f))) {i x : Int32} (hin : vp_in i n) (hf : upd f i.toNatClampNeg (vp_nar .byte x) = f') (hw : ws.set q0 (a, .inl (T 3, n, .inl f')) = ws') (hdg : decode cc pc = .ok (.bastore, 1))
    (kk : ∀ (H1 : Heap) (locs1 : List Loc), gW D T A s ws' H1 locs1 → W p l e R s m args below meth c H1 locs1 cells slots Q (F0 m (pc + 1) ls rest)) : W p l e R s m args below meth c H locs cells slots Q (F0 m pc ls (.int x :: .int i :: .ref a :: rest)) := by
  subst hf
  exact va_bast hC.1 hC.2.1 V.1 V.2.1 V.2.2.1 V.2.2.2.1 q0 3 ha rfl hin hdg (fun H1 locs1 h1 h2 h3 => kk H1 locs1 ⟨V.1, hw ▸ h1, hw ▸ h2, h3, V.2.2.2.2⟩)
theorem g_aast (hC : cX p s m args meth c own cc nL rt) (V : gW D T A s ws H locs) (q0 t0 qk ci : Nat) {cA : ClassId} {r : vw_C} {n v : Nat} {vs : List Value} {f f' : Nat → Option Nat} (ha : ws[q0]? = some (a, .inl (cA, n, .inr (.inr (.inr (.inr f)))))) (ht : (ty6 T)[t0]? = some (cA, .object r.1)) (hv : ws[qk]? = some (v, .inr (ci, vs))) (hc : vwCl[ci]? = some r) {i : Int32} (hin : vp_in i n) (hf : va_up f i.toNatClampNeg (some v) = f') (hw : ws.set q0 (a, .inl (cA, n, .inr (.inr (.inr (.inr f'))))) = ws') (hdg : decode cc pc = .ok (.aastore, 1))
    (kk : ∀ (H1 : Heap) (locs1 : List Loc), gW D T A s ws' H1 locs1 → W p l e R s m args below meth c H1 locs1 cells slots Q (F0 m (pc + 1) ls rest)) : W p l e R s m args below meth c H locs cells slots Q (F0 m pc ls (.ref v :: .int i :: .ref a :: rest)) := by
  subst hf
  exact va_astq hC.1 hC.2.1 V.1 V.2.1 V.2.2.1 V.2.2.2.1 q0 t0 qk ci ha ht hv hc hin hdg (fun H1 locs1 h1 h2 h3 => kk H1 locs1 ⟨V.1, hw ▸ h1, hw ▸ h2, h3, V.2.2.2.2⟩)
theorem g_new (hC : cX p s m args meth c own cc nL rt) (V : gW D T A s ws H locs) {C : String} {TT : u_T} {N ci index : Nat} (hin : ∀ w ∈ u_ws C TT N, w ∈ gT) (ty0 : Nat → FieldType) (hty : ∀ k, k < N → parseFieldDescriptor (TT k).2.2.1 = some (ty0 k)) (hcl : Cond.classLink own index C ∈ gT) (hinst : Cond.instantiable C N ∈ gT) (hini : Cond.initialized C ∈ gT) (hc : vwCl[ci]? = some (C, TT, N)) {fs : List Value} (hfs : (List.range N).map (fun j => defaultValue (ty0 j)) = fs) (hcells : cells + 1 ≤ R.cells) (hslots : slots + N ≤ R.slots) (hdg : decode cc pc = .ok (.new index, 3))
    (kk : ∀ (q : Nat) (H1 : Heap), gW D T A s (ws ++ [(q, .inr (ci, fs))]) H1 locs → W p l e R s m args below meth c H1 locs (cells + 1) (slots + N) Q (F0 m (pc + 3) ls (.ref q :: rest))) : W p l e R s m args below meth c H locs cells slots Q (F0 m pc ls rest) :=
  va_new hC.1 hC.2.1 hC.2.2.2.2.2.1 hin ty0 hty hC.2.2.2.2.1 (hC.2.2.2.2.2.1 _ hcl) (hC.2.2.2.2.2.1 _ hinst) (hC.2.2.2.2.2.1 _ hini) V.1 V.2.1 V.2.2.1 V.2.2.2.1 V.2.2.2.2.1 hc (fun j hj => by subst hfs; simp [vp_V, hj]) hcells hslots hdg (fun q H1 h1 h2 h3 => kk q H1 ⟨V.1, h1, h2, h3, V.2.2.2.2⟩)
theorem g_newa (hC : cX p s m args meth c own cc nL rt) (V : gW D T A s ws H locs) {atype : ArrayType} {ty : FieldType} (harr : Cond.arrayClass ty ∈ gT) (hty : newarray.typeOf atype = ty) (t0 : Nat) {cA : ClassId} (ht : (ty6 T)[t0]? = some (cA, ty)) (hpr : ∀ C, ty ≠ .object C) {N : Nat} {a0 : vp_A} (ha : ∀ cA : ClassId, vp_cell cA a0 = arrV cA N (fun _ => defaultValue ty)) (hN : N < 2 ^ 20) (hbytes : N * componentBytes ty ≤ 536870912) (hcells : cells + 1 ≤ R.cells) (hslots : slots + N ≤ R.slots) (hdg : decode cc pc = .ok (.newarray atype, 2))
    (kk : ∀ (q : Nat) (H1 : Heap), gW D T A s (ws ++ [(q, .inl (cA, a0))]) H1 locs → W p l e R s m args below meth c H1 locs (cells + 1) (slots + N) Q (F0 m (pc + 2) ls (.ref q :: rest))) : W p l e R s m args below meth c H locs cells slots Q (F0 m pc ls (.int (nI N) :: rest)) := by
  refine va_newa hC.1 hC.2.1 (atype := atype) (by rw [hty]; exact hC.2.2.2.2.2.1 _ harr) hty V.1 V.2.1 V.2.2.1 V.2.2.2.1 V.2.2.2.2.1 ha (nI_pos (by omega)) (nI_clamp (by omega)) hbytes hcells hslots hdg (fun q cB H1 h0 h1 h2 h3 => ?_)
  have e1 := (V.1.2 t0 _ ht).2
  have e2 := (h0.2 6 (cB, ty) rfl).2
  have e : cB = cA := by
    cases ty with
    | object C => exact absurd rfl (hpr C)
    | _ => exact Option.some.inj (Eq.trans (Eq.symm e2) e1)
  subst e
  exact kk q H1 ⟨V.1, h1, h2, h3, V.2.2.2.2⟩
theorem g_newq (hC : cX p s m args meth c own cc nL rt) (V : gW D T A s ws H locs) {C : String} {index : Nat} (hcl : Cond.classLink own index C ∈ gT) (hao : nW s → va_AO C s) (t0 : Nat) {cA : ClassId} (ht : (ty6 T)[t0]? = some (cA, .object C)) {N : Nat} (hN : N < 2 ^ 20) (hcells : cells + 1 ≤ R.cells) (hslots : slots + N ≤ R.slots) (hdg : decode cc pc = .ok (.anewarray index, 3))
    (kk : ∀ (q : Nat) (H1 : Heap), gW D T A s (ws ++ [(q, .inl (cA, N, .inr (.inr (.inr (.inr (fun _ => none))))))]) H1 locs → W p l e R s m args below meth c H1 locs (cells + 1) (slots + N) Q (F0 m (pc + 3) ls (.ref q :: rest))) : W p l e R s m args below meth c H locs cells slots Q (F0 m pc ls (.int (nI N) :: rest)) := by
  refine va_newq hC.1 hC.2.1 hC.2.2.2.2.1 (hC.2.2.2.2.2.1 _ hcl) (hao V.2.2.2.2.2.1) V.1 V.2.1 V.2.2.1 V.2.2.2.1 V.2.2.2.2.1 (nI_pos (by omega)) (nI_clamp (by omega)) (by omega) hcells hslots hdg (fun q cB H1 h0 h1 h2 h3 => ?_)
  obtain ⟨kA, comp, -, -, -, e1⟩ := (V.1.2 t0 _ ht).2
  obtain ⟨kB, comB, -, -, -, e2⟩ := (h0.2 6 (cB, .object C) rfl).2
  have e : cB = cA := Option.some.inj (Eq.trans (Eq.symm e2) e1)
  subst e
  exact kk q H1 ⟨V.1, h1, h2, h3, V.2.2.2.2⟩
/-- what comes back from a call -/
theorem g_back {mc ms : Nat} {wc wr : va_W} {Qr : Option Value → va_W → Prop} {aa : Array Value} {st0 : List Value} (V : gW D T A s ws H locs) (isC isR : List Nat) (hCc : isC.map (fun i => ws[i]?) = wc.map some) (hRr : isR.map (fun i => ws[i]?) = wr.map some) (hn : va_nd isR = true) (hdis : ∀ i ∈ isR, i ∉ isC)
    (hr : va_Run p l e R s m args below meth c H locs cells slots mc ms (F0 m pc ls st0) rest (gQ D (va_A wc H.size) Qr aa) (va_A wc H.size))
    (kk : ∀ (r : Option Value) (w1 : va_W) (H1 : Heap) (locs1 : List Loc), Qr r w1 → gW D T A s (wr ++ w1) H1 locs1 → W p l e R s m args below meth c H1 locs1 (cells + mc) (slots + ms) Q (F0 m (pc + 3) ls (r.toList ++ rest))) : W p l e R s m args below meth c H locs cells slots Q (F0 m pc ls st0) := by
  intro T0 hT X
  obtain ⟨hK, hP, hD, hS, hA, hN⟩ := V
  have hF := va_free (wc := wc) hD hS hA isC hCc
  obtain ⟨v, st₀, t, T', L, h0, X', hL, e1, e2, ⟨⟨r, w1, hv, hq, hP1, hD1⟩, hz, hk⟩, st⟩ := hr T0 hT X
  cases hv
  rw [h0] at hz hk
  have hz1 : H.size ≤ T'.heap.size := by rw [e1]; exact hz
  have hk1 : ∀ q : Nat, q < H.size → ¬ va_A wc H.size q → T'.heap[q]? = H[q]? := fun q h1 h2 => by rw [e1]; exact hk q h1 h2
  obtain ⟨hP2, hD2⟩ := va_join (wr := wr) (w1 := w1) (H1 := T'.heap) hP hD isC isR hCc hRr hn hdis hk1 hF (by rw [e1]; exact hP1) hD1
  have hS2 : va_S A s.heap T'.heap (locs ++ L) := ⟨Nat.le_trans hS.1 hz1, fun q h1 h2 => by rw [hk1 q (Nat.lt_of_lt_of_le h1 hS.1) (fun z => h2 (hF q z))]; exact hS.2.1 q h1 h2, fun q hq => by
      rcases List.mem_append.mp hq with h | h
      · exact hS.2.2 q h
      · exact hF _ (hL q h)⟩
  obtain ⟨t2, a1, b1⟩ := kk v w1 T'.heap (locs ++ L) hq ⟨hK, hP2, hD2, hS2, hA, hN⟩ T' rfl X'
  exact ⟨t2, st t2 a1, b1⟩
theorem g_blind (as : List Value) (wc : va_W) (sz : Nat) : FrameBlind (va_Pc as (gP D T wc sz)) := fun a U g mk q => by
  obtain ⟨q0, q1, qP, qK, qD, qN⟩ := q
  exact ⟨q0, q1, qP, va_K.moved (u := U) (U := U.calling g mk a) (Vm.Alike.refl U.vm) qK, qD, nW.same (u := U) (U := U.calling g mk a) rfl qN.1, zW.same (u := U) (U := U.calling g mk a) rfl rfl qN.2⟩
theorem g_pre (V : gW D T A s ws H locs) (as : List Value) {wc : va_W} (isC : List Nat) (hnd : va_nd isC = true) (hCc : isC.map (fun i => ws[i]?) = wc.map some) : ∀ U : State, U.heap = H → s.WarmedH U.vm → va_Pc as (gP D T wc H.size) as.toArray U := fun U hU hW =>
  ⟨rfl, by rw [hU], by rw [hU]; exact V.2.1.subm isC hCc, va_K.moved hW.alike V.1, (V.2.2.1.sub isC hnd hCc).weaken (fun _ _ _ _ => trivial), V.2.2.2.2.2.1.warm hW, zW.call V.2.2.2.2.2.2 V.2.2.2.1 hU hW (va_free (wc := wc) V.2.2.1 V.2.2.2.1 V.2.2.2.2.1 isC hCc)⟩
variable {y : MethodName} {d k n : Nat} {b : Nat} {As : List Value} {wc wr : va_W} {Qr : Option Value → va_W → Prop} {bytes : ByteArray} {maxL index nA : Nat} {ret : Option FieldType} {C : String}
theorem g_callV (hC : cX p s m args meth c own cc nL rt) (V : gW D T A s ws H locs) (hl : ls.size = nL) (hM : Ct l y bytes maxL ret d k n D T (.ref b :: As) wc Qr) (w1 : Cond.methodLink own index y ∈ gT) (w2 : Cond.instanceMethod y ∈ gT) (w3 : Cond.selects C y y ∈ gT) (w4 : Cond.initialized C ∈ gT) (w5 : Cond.code y bytes maxL ret ∈ gT) (hd : y.cls = C ∧ y.cls ≠ "java/lang/invoke/MethodHandle" ∧ y.cls ≠ "java/lang/invoke/VarHandle" ∧ (parseMethodDescriptor y.desc).map (fun d => d.parameters.length) = some nA) (hnA : As.length = nA) (hR : d + 1 ≤ R.frames ∧ 8 + (maxL + 11) + 64 * d ≤ R.locals)
    (q0 : Nat) {ci : Nat} {fs : List Value} {rr : u_T × Nat} (he : ws[q0]? = some (b, .inr (ci, fs))) (hc : vwCl[ci]? = some (C, rr)) (isC isR : List Nat) (hnd : va_nd isC = true) (hCc : isC.map (fun i => ws[i]?) = wc.map some) (hRr : isR.map (fun i => ws[i]?) = wr.map some) (hn : va_nd isR = true) (hdis : ∀ i ∈ isR, i ∉ isC) (hst : (rest.map fun v => v.category).sum ≤ 8) (hdg : decode cc pc = .ok (.invokevirtual index, 3)) (hf : cells + k ≤ R.cells ∧ slots + n ≤ R.slots) {st0 : List Value} (hst0 : st0 = As.reverse ++ .ref b :: rest)
    (kk : ∀ (r : Option Value) (w1 : va_W) (H1 : Heap) (locs1 : List Loc), Qr r w1 → gW D T A s (wr ++ w1) H1 locs1 → W p l e R s m args below meth c H1 locs1 (cells + k) (slots + n) Q (F0 m (pc + 3) ls (r.toList ++ rest))) : W p l e R s m args below meth c H locs cells slots Q (F0 m pc ls st0) := by
  subst hst0
  exact g_back V isC isR hCc hRr hn hdis (va_runV ⟨hC.1, hC.2.1, hC.2.2.2.1, hC.2.2.2.2.1, hC.2.2.2.2.2.1⟩ (hM H.size) (cwV nA hC.2.2.2.2.2.1 (g_good (List.forall_mem_cons.mpr ⟨w1, List.forall_mem_cons.mpr ⟨w2, List.forall_mem_cons.mpr ⟨w3, List.forall_mem_cons.mpr ⟨w4, List.forall_mem_cons.mpr ⟨w5, fun _ h => h⟩⟩⟩⟩⟩)) rfl rfl rfl hd hR) ⟨g_blind _ _ _, va_recv V.1 V.2.1 hc he, g_pre V _ isC hnd hCc⟩ rfl hnA hl rfl (lv_room hst) hdg hf) kk
theorem g_callZ (hC : cX p s m args meth c own cc nL rt) (V : gW D T A s ws H locs) (hl : ls.size = nL) (hM : Ct l y bytes maxL ret d k n D T (.ref b :: As) wc Qr) (w1 : Cond.methodLink own index y ∈ gT) (w2 : Cond.instanceMethod y ∈ gT) (w3 : Cond.selects C y y ∈ gT) (w4 : Cond.initialized C ∈ gT) (w5 : Cond.code y bytes maxL ret ∈ gT) (hd : y.cls = C ∧ y.cls ≠ "java/lang/invoke/MethodHandle" ∧ y.cls ≠ "java/lang/invoke/VarHandle" ∧ (parseMethodDescriptor y.desc).map (fun d => d.parameters.length) = some nA) (hnA : As.length = nA) (hR : d + 1 ≤ R.frames ∧ 8 + (maxL + 11) + 64 * d ≤ R.locals)
    {si : Nat} (hsi : si < 9) (hbs : b = D.2 9 si) (hCs : C = "java/lang/String") (isC isR : List Nat) (hnd : va_nd isC = true) (hCc : isC.map (fun i => ws[i]?) = wc.map some) (hRr : isR.map (fun i => ws[i]?) = wr.map some) (hn : va_nd isR = true) (hdis : ∀ i ∈ isR, i ∉ isC) (hst : (rest.map fun v => v.category).sum ≤ 8) (hdg : decode cc pc = .ok (.invokevirtual index, 3)) (hf : cells + k ≤ R.cells ∧ slots + n ≤ R.slots) {st0 : List Value} (hst0 : st0 = As.reverse ++ .ref b :: rest)
    (kk : ∀ (r : Option Value) (w1 : va_W) (H1 : Heap) (locs1 : List Loc), Qr r w1 → gW D T A s (wr ++ w1) H1 locs1 → W p l e R s m args below meth c H1 locs1 (cells + k) (slots + n) Q (F0 m (pc + 3) ls (r.toList ++ rest))) : W p l e R s m args below meth c H locs cells slots Q (F0 m pc ls st0) := by
  subst hst0; subst hbs; subst hCs
  exact g_back V isC isR hCc hRr hn hdis (va_runV ⟨hC.1, hC.2.1, hC.2.2.2.1, hC.2.2.2.2.1, hC.2.2.2.2.2.1⟩ (hM H.size) (cwV nA hC.2.2.2.2.2.1 (g_good (List.forall_mem_cons.mpr ⟨w1, List.forall_mem_cons.mpr ⟨w2, List.forall_mem_cons.mpr ⟨w3, List.forall_mem_cons.mpr ⟨w4, List.forall_mem_cons.mpr ⟨w5, fun _ h => h⟩⟩⟩⟩⟩)) rfl rfl rfl hd hR) ⟨g_blind _ _ _, vk_recv V.2.2.2.2.2.2.1 hsi V.2.2.2.1, g_pre V _ isC hnd hCc⟩ rfl hnA hl rfl (lv_room hst) hdg hf) kk
theorem g_callS (hC : cX p s m args meth c own cc nL rt) (V : gW D T A s ws H locs) (hl : ls.size = nL) (hM : Ct l y bytes maxL ret d k n D T As wc Qr) (w1 : Cond.methodLink own index y ∈ gT) (w2 : Cond.static y ∈ gT) (w4 : Cond.initialized y.cls ∈ gT) (w5 : Cond.code y bytes maxL ret ∈ gT) (hd : y.cls ≠ "java/lang/invoke/MethodHandle" ∧ y.cls ≠ "java/lang/invoke/VarHandle" ∧ (parseMethodDescriptor y.desc).map (fun d => d.parameters.length) = some nA) (hnA : As.length = nA) (hR : d + 1 ≤ R.frames ∧ 8 + (maxL + 11) + 64 * d ≤ R.locals)
    (isC isR : List Nat) (hnd : va_nd isC = true) (hCc : isC.map (fun i => ws[i]?) = wc.map some) (hRr : isR.map (fun i => ws[i]?) = wr.map some) (hn : va_nd isR = true) (hdis : ∀ i ∈ isR, i ∉ isC) (hst : (rest.map fun v => v.category).sum ≤ 8) (hdg : decode cc pc = .ok (.invokestatic index, 3)) (hf : cells + k ≤ R.cells ∧ slots + n ≤ R.slots) {st0 : List Value} (hst0 : st0 = As.reverse ++ rest)
    (kk : ∀ (r : Option Value) (w1 : va_W) (H1 : Heap) (locs1 : List Loc), Qr r w1 → gW D T A s (wr ++ w1) H1 locs1 → W p l e R s m args below meth c H1 locs1 (cells + k) (slots + n) Q (F0 m (pc + 3) ls (r.toList ++ rest))) : W p l e R s m args below meth c H locs cells slots Q (F0 m pc ls st0) := by
  subst hst0
  exact g_back V isC isR hCc hRr hn hdis (va_runS ⟨hC.1, hC.2.1, hC.2.2.2.1, hC.2.2.2.2.1, hC.2.2.2.2.2.1⟩ (hM H.size) (va_cwS nA hC.2.2.2.2.2.1 (g_good (List.forall_mem_cons.mpr ⟨w1, List.forall_mem_cons.mpr ⟨w2, List.forall_mem_cons.mpr ⟨w4, List.forall_mem_cons.mpr ⟨w5, fun _ h => h⟩⟩⟩⟩)) rfl rfl rfl hd hR) ⟨g_blind _ _ _, g_pre V _ isC hnd hCc⟩ rfl hnA hl rfl (lv_room hst) hdg hf) kk
theorem g_callSN (hC : cX p s m args meth c own cc nL rt) (V : gW D T A s ws H locs) (hl : ls.size = nL) (hM : Ct l y bytes maxL ret d k n D T As wc Qr) (w5 : Cond.code y bytes maxL ret ∈ gT) {host : String} (hnl : (own, index, y, host) ∈ nLs) (hini : Cond.initialized y.cls ∈ gT) (hstat : Cond.static y ∈ gT) (hd : y.cls ≠ "java/lang/invoke/MethodHandle" ∧ y.cls ≠ "java/lang/invoke/VarHandle" ∧ (parseMethodDescriptor y.desc).map (fun d => d.parameters.length) = some nA) (hnA : As.length = nA) (hR : d + 1 ≤ R.frames ∧ 8 + (maxL + 11) + 64 * d ≤ R.locals)
    (isC isR : List Nat) (hnd : va_nd isC = true) (hCc : isC.map (fun i => ws[i]?) = wc.map some) (hRr : isR.map (fun i => ws[i]?) = wr.map some) (hn : va_nd isR = true) (hdis : ∀ i ∈ isR, i ∉ isC) (hst : (rest.map fun v => v.category).sum ≤ 8) (hdg : decode cc pc = .ok (.invokestatic index, 3)) (hf : cells + k ≤ R.cells ∧ slots + n ≤ R.slots) {st0 : List Value} (hst0 : st0 = As.reverse ++ rest)
    (kk : ∀ (r : Option Value) (w1 : va_W) (H1 : Heap) (locs1 : List Loc), Qr r w1 → gW D T A s (wr ++ w1) H1 locs1 → W p l e R s m args below meth c H1 locs1 (cells + k) (slots + n) Q (F0 m (pc + 3) ls (r.toList ++ rest))) : W p l e R s m args below meth c H locs cells slots Q (F0 m pc ls st0) := by
  subst hst0
  exact g_back V isC isR hCc hRr hn hdis (va_runSN ⟨hC.1, hC.2.1, hC.2.2.2.1, hC.2.2.2.2.1, hC.2.2.2.2.2.1⟩ (hM H.size) ⟨va_cnB nA hC.2.2.2.2.2.1 (g_good (List.forall_mem_cons.mpr ⟨w5, fun _ h => h⟩)) rfl rfl rfl (V.2.2.2.2.2.1.1 (own, index, y, host) hnl) (hC.2.2.2.2.2.1 _ hini) hd hR, hC.2.2.2.2.2.1 _ hstat, trivial⟩ ⟨g_blind _ _ _, g_pre V _ isC hnd hCc⟩ rfl hnA hl rfl (lv_room hst) hdg hf) kk
theorem g_callIN (hC : cX p s m args meth c own cc nL rt) (V : gW D T A s ws H locs) (hl : ls.size = nL) (hM : Ct l y bytes maxL none d k n D T (.ref b :: As) wc Qr) (w5 : Cond.code y bytes maxL none ∈ gT) {host : String} (hnl : (own, index, y, host) ∈ nLs) (hini : Cond.initialized y.cls ∈ gT) (hinst : Cond.instanceMethod y ∈ gT) (hnm : y.name = "<init>") (hd : y.cls ≠ "java/lang/invoke/MethodHandle" ∧ y.cls ≠ "java/lang/invoke/VarHandle" ∧ (parseMethodDescriptor y.desc).map (fun d => d.parameters.length) = some nA) (hnA : As.length = nA) (hR : d + 1 ≤ R.frames ∧ 8 + (maxL + 11) + 64 * d ≤ R.locals)
    (isC isR : List Nat) (hnd : va_nd isC = true) (hCc : isC.map (fun i => ws[i]?) = wc.map some) (hRr : isR.map (fun i => ws[i]?) = wr.map some) (hn : va_nd isR = true) (hdis : ∀ i ∈ isR, i ∉ isC) (hst : (rest.map fun v => v.category).sum ≤ 8) (hdg : decode cc pc = .ok (.invokespecial index, 3)) (hf : cells + k ≤ R.cells ∧ slots + n ≤ R.slots) {st0 : List Value} (hst0 : st0 = As.reverse ++ .ref b :: rest)
    (kk : ∀ (r : Option Value) (w1 : va_W) (H1 : Heap) (locs1 : List Loc), Qr r w1 → gW D T A s (wr ++ w1) H1 locs1 → W p l e R s m args below meth c H1 locs1 (cells + k) (slots + n) Q (F0 m (pc + 3) ls (r.toList ++ rest))) : W p l e R s m args below meth c H locs cells slots Q (F0 m pc ls st0) := by
  subst hst0
  exact g_back V isC isR hCc hRr hn hdis (va_runIN ⟨hC.1, hC.2.1, hC.2.2.2.1, hC.2.2.2.2.1, hC.2.2.2.2.2.1⟩ (hM H.size) ⟨va_cnB nA hC.2.2.2.2.2.1 (g_good (List.forall_mem_cons.mpr ⟨w5, fun _ h => h⟩)) rfl rfl rfl (V.2.2.2.2.2.1.1 (own, index, y, host) hnl) (hC.2.2.2.2.2.1 _ hini) hd hR, hnm, hC.2.2.2.2.2.1 _ hinst⟩ ⟨g_blind _ _ _, g_pre V _ isC hnd hCc⟩ rfl hnA hl rfl (lv_room hst) hdg hf) kk
/-- constructors that are called by their own link (from the law) -/
theorem g_callI (hC : cX p s m args meth c own cc nL rt) (V : gW D T A s ws H locs) (hl : ls.size = nL) (hM : Ct l y bytes maxL none d k n D T (.ref b :: As) wc Qr) (w5 : Cond.code y bytes maxL none ∈ gT) (hini : Cond.initialized y.cls ∈ gT) (hlk : Cond.methodLink own index y ∈ gT) (hinst : Cond.instanceMethod y ∈ gT) (hnm : y.name = "<init>") (hd : y.cls ≠ "java/lang/invoke/MethodHandle" ∧ y.cls ≠ "java/lang/invoke/VarHandle" ∧ (parseMethodDescriptor y.desc).map (fun d => d.parameters.length) = some nA) (hnA : As.length = nA) (hR : d + 1 ≤ R.frames ∧ 8 + (maxL + 11) + 64 * d ≤ R.locals)
    (isC isR : List Nat) (hnd : va_nd isC = true) (hCc : isC.map (fun i => ws[i]?) = wc.map some) (hRr : isR.map (fun i => ws[i]?) = wr.map some) (hn : va_nd isR = true) (hdis : ∀ i ∈ isR, i ∉ isC) (hst : (rest.map fun v => v.category).sum ≤ 8) (hdg : decode cc pc = .ok (.invokespecial index, 3)) (hf : cells + k ≤ R.cells ∧ slots + n ≤ R.slots) {st0 : List Value} (hst0 : st0 = As.reverse ++ .ref b :: rest)
    (kk : ∀ (r : Option Value) (w1 : va_W) (H1 : Heap) (locs1 : List Loc), Qr r w1 → gW D T A s (wr ++ w1) H1 locs1 → W p l e R s m args below meth c H1 locs1 (cells + k) (slots + n) Q (F0 m (pc + 3) ls (r.toList ++ rest))) : W p l e R s m args below meth c H locs cells slots Q (F0 m pc ls st0) := by
  subst hst0
  exact g_back V isC isR hCc hRr hn hdis (va_runI ⟨hC.1, hC.2.1, hC.2.2.2.1, hC.2.2.2.2.1, hC.2.2.2.2.2.1⟩ (hM H.size) (cwI nA hC.2.2.2.2.2.1 (g_good (List.forall_mem_cons.mpr ⟨w5, fun _ h => h⟩)) rfl rfl rfl (hC.2.2.2.2.2.1 _ hini) (hC.2.2.2.2.2.1 _ hlk) (hC.2.2.2.2.2.1 _ hinst) hnm hd hR) ⟨g_blind _ _ _, g_pre V _ isC hnd hCc⟩ rfl hnA hl rfl (lv_room hst) hdg hf) kk
/-- the ends -/
theorem g_iret (hC : cX p s m args meth c own cc nL (some .int)) (V : gW D T A s ws H locs) {kc nc : Nat} (hk : cells ≤ kc ∧ slots ≤ nc) {v : Int32} (hq : Qr (some (.int v)) ws) (hdg : decode cc pc = .ok (.ireturn, 1)) : W p l e R s m args below meth c H locs cells slots (MQ below (gQ D A Qr) args s kc nc A) (F0 m pc ls [.int v]) :=
  W.widen hk.1 hk.2 (W.iret hC.1 hC.2.1 hC.2.2.1 (fun t ht hW => ⟨⟨_, ws, rfl, hq, by rw [ht]; exact V.2.1, V.2.2.1⟩, V.2.2.2.1.F ht⟩) V.2.2.2.1.2.2 hdg hC.2.2.2.2.2.2)
theorem g_zret (hC : cX p s m args meth c own cc nL (some .boolean)) (V : gW D T A s ws H locs) {kc nc : Nat} (hk : cells ≤ kc ∧ slots ≤ nc) {v : Int32} (hn : narrow .boolean (.int v) = .int v) (hq : Qr (some (.int v)) ws) (hdg : decode cc pc = .ok (.ireturn, 1)) : W p l e R s m args below meth c H locs cells slots (MQ below (gQ D A Qr) args s kc nc A) (F0 m pc ls [.int v]) :=
  W.widen hk.1 hk.2 (W.zret hC.1 hC.2.1 hC.2.2.1 hn (fun t ht hW => ⟨⟨_, ws, rfl, hq, by rw [ht]; exact V.2.1, V.2.2.1⟩, V.2.2.2.1.F ht⟩) V.2.2.2.1.2.2 hdg hC.2.2.2.2.2.2)
theorem g_lret (hC : cX p s m args meth c own cc nL (some .long)) (V : gW D T A s ws H locs) {kc nc : Nat} (hk : cells ≤ kc ∧ slots ≤ nc) {v : Int64} (hq : Qr (some (.long v)) ws) (hdg : decode cc pc = .ok (.lreturn, 1)) : W p l e R s m args below meth c H locs cells slots (MQ below (gQ D A Qr) args s kc nc A) (F0 m pc ls [.long v]) :=
  W.widen hk.1 hk.2 (W.lret hC.1 hC.2.1 hC.2.2.1 (fun t ht hW => ⟨⟨_, ws, rfl, hq, by rw [ht]; exact V.2.1, V.2.2.1⟩, V.2.2.2.1.F ht⟩) V.2.2.2.1.2.2 hdg hC.2.2.2.2.2.2)
theorem g_vret (hC : cX p s m args meth c own cc nL none) (V : gW D T A s ws H locs) {kc nc : Nat} (hk : cells ≤ kc ∧ slots ≤ nc) (hq : Qr none ws) (hdg : decode cc pc = .ok (.return_, 1)) : W p l e R s m args below meth c H locs cells slots (MQ below (gQ D A Qr) args s kc nc A) (F0 m pc ls []) :=
  W.widen hk.1 hk.2 (W.vret hC.1 hC.2.1 hC.2.2.1 (fun t ht hW => ⟨⟨_, ws, rfl, hq, by rw [ht]; exact V.2.1, V.2.2.1⟩, V.2.2.2.1.F ht⟩) V.2.2.2.1.2.2 hdg hC.2.2.2.2.2.2)
theorem g_nret {ty9 : FieldType} (hC : cX p s m args meth c own cc nL (some ty9)) (V : gW D T A s ws H locs) {kc nc : Nat} (hk : cells ≤ kc ∧ slots ≤ nc) {v : Int32} (hn : narrow ty9 (.int v) = .int v) (hq : Qr (some (.int v)) ws) (hdg : decode cc pc = .ok (.ireturn, 1)) : W p l e R s m args below meth c H locs cells slots (MQ below (gQ D A Qr) args s kc nc A) (F0 m pc ls [.int v]) :=
  W.widen hk.1 hk.2 (W.zret hC.1 hC.2.1 hC.2.2.1 hn (fun t ht hW => ⟨⟨_, ws, rfl, hq, by rw [ht]; exact V.2.1, V.2.2.1⟩, V.2.2.2.1.F ht⟩) V.2.2.2.1.2.2 hdg hC.2.2.2.2.2.2)
theorem g_sval (hC : cX p s m args meth c own cc nL rt) (V : gW D T A s ws H locs) {si : Nat} (hsi : si < 9) (w : Cond.fieldLink own index "java/lang/String" "value" "[B" ∈ gT) (hdg : decode cc pc = .ok (.getfield index, 3)) (kk : W p l e R s m args below meth c H locs cells slots Q (F0 m (pc + 3) ls (.ref (D.2 10 si) :: rest))) : W p l e R s m args below meth c H locs cells slots Q (F0 m pc ls (.ref (D.2 9 si) :: rest)) :=
  vk_getf hC.1 hC.2.1 (V.2.2.2.2.2.2.1.1 si hsi).2.2.1 V.2.2.2.1 hC.2.2.2.2.1 (hC.2.2.2.2.2.1 _ w) (fun _ h => h) hdg kk
theorem g_scod (hC : cX p s m args meth c own cc nL rt) (V : gW D T A s ws H locs) {si : Nat} (hsi : si < 9) (w : Cond.fieldLink own index "java/lang/String" "coder" "B" ∈ gT) (hdg : decode cc pc = .ok (.getfield index, 3)) (kk : W p l e R s m args below meth c H locs cells slots Q (F0 m (pc + 3) ls (.int 0 :: rest))) : W p l e R s m args below meth c H locs cells slots Q (F0 m pc ls (.ref (D.2 9 si) :: rest)) :=
  vk_getf hC.1 hC.2.1 (V.2.2.2.2.2.2.1.1 si hsi).2.1 V.2.2.2.1 hC.2.2.2.2.1 (hC.2.2.2.2.2.1 _ w) (fun _ h => h) hdg kk
theorem g_slen (hC : cX p s m args meth c own cc nL rt) (V : gW D T A s ws H locs) {si : Nat} (hsi : si < 9) (hdg : decode cc pc = .ok (.arraylength, 1)) (kk : W p l e R s m args below meth c H locs cells slots Q (F0 m (pc + 1) ls (.int (nI (sLen.getD si 0)) :: rest))) : W p l e R s m args below meth c H locs cells slots Q (F0 m pc ls (.ref (D.2 10 si) :: rest)) :=
  va_tlen hC.1 hC.2.1 (V.2.2.2.2.2.2.1.1 si hsi).2.2.2 V.2.2.2.1 rfl hdg kk
theorem g_sbyt (hC : cX p s m args meth c own cc nL rt) (V : gW D T A s ws H locs) {si j : Nat} (hsi : si < 9) (hj : j < sLen.getD si 0) (hj2 : sLen.getD si 0 < 2147483648) (hdg : decode cc pc = .ok (.baload, 1)) (kk : W p l e R s m args below meth c H locs cells slots Q (F0 m (pc + 1) ls (.int ((sByt.getD si []).getD j 0) :: rest))) : W p l e R s m args below meth c H locs cells slots Q (F0 m pc ls (.int (nI j) :: .ref (D.2 10 si) :: rest)) :=
  va_tb hC.1 hC.2.1 (V.2.2.2.2.2.2.1.1 si hsi).2.2.2 V.2.2.2.1 (vp_in_nI hj hj2) (by rw [nI_clamp (by omega)]) hdg kk
theorem g_scs (hC : cX p s m args meth c own cc nL rt) (V : gW D T A s ws H locs) (w : Cond.fieldLink own index "java/lang/String" "COMPACT_STRINGS" "Z" ∈ gT) (hdg : decode cc pc = .ok (.getstatic index, 3)) (kk : W p l e R s m args below meth c H locs cells slots Q (F0 m (pc + 3) ls (.int 1 :: rest))) : W p l e R s m args below meth c H locs cells slots Q (F0 m pc ls rest) :=
  va_gets hC.1 hC.2.1 V.2.2.2.2.2.2.2.1 V.2.2.2.1 hC.2.2.2.2.1 (hC.2.2.2.2.2.1 _ w) (fun _ h => h) hdg kk
theorem g_sfm (hC : cX p s m args meth c own cc nL rt) (V : gW D T A s ws H locs) (w : Cond.fieldLink own index "jdk/internal/util/Preconditions" "SIOOBE_FORMATTER" "Ljava/util/function/BiFunction;" ∈ gT) (hdg : decode cc pc = .ok (.getstatic index, 3)) (kk : ∀ t : Nat, W p l e R s m args below meth c H locs cells slots Q (F0 m (pc + 3) ls (.ref t :: rest))) (kn : W p l e R s m args below meth c H locs cells slots Q (F0 m (pc + 3) ls (.null :: rest))) : W p l e R s m args below meth c H locs cells slots Q (F0 m pc ls rest) := by
  rcases V.2.2.2.2.2.2.2.2.1 with h | ⟨t, h⟩
  · exact va_gets hC.1 hC.2.1 h V.2.2.2.1 hC.2.2.2.2.1 (hC.2.2.2.2.2.1 _ w) (fun _ h => h) hdg kn
  · exact va_gets hC.1 hC.2.1 h V.2.2.2.1 hC.2.2.2.2.1 (hC.2.2.2.2.2.1 _ w) (fun _ h => h) hdg (kk t)
theorem g_ldcS (hC : cX p s m args meth c own cc nL rt) (V : gW D T A s ws H locs) (si : Nat) {tx : String} (hq : sLs[si]? = some (own, index, tx)) (hdg : decode cc pc = .ok (.ldc index, 2)) (kk : W p l e R s m args below meth c H locs cells slots Q (F0 m (pc + 2) ls (.ref (D.2 9 si) :: rest))) : W p l e R s m args below meth c H locs cells slots Q (F0 m pc ls rest) :=
  va_ldcS hC.1 hC.2.1 hC.2.2.2.2.1 (V.2.2.2.2.2.2.2.2.2 si (own, index, tx) hq) hdg kk
theorem g_objInit (hC : cX p s m args meth c own cc nL rt) (hl : ls.size = nL) {idx : Nat} (hlk : Cond.methodLink own idx Lib.objectInit ∈ gT) (hi : Cond.instanceMethod Lib.objectInit ∈ gT) (hco : Cond.code Lib.objectInit ⟨#[0xb1]⟩ 1 none ∈ gT) (hdg : decode cc pc = .ok (.invokespecial idx, 3)) (hfr : 1 ≤ R.frames) (hst : (rest.map fun v => v.category).sum ≤ 8) (hlo : 64 ≤ R.locals)
    (kk : W p l e R s m args below meth c H locs cells slots Q (F0 m (pc + 3) ls rest)) : W p l e R s m args below meth c H locs cells slots Q (F0 m pc ls (.ref a :: rest)) :=
  W.objInit hC.1 hC.2.1 hC.2.2.2.2.1 (hC.2.2.2.2.2.1 _ hlk) (hC.2.2.2.2.2.1 _ hi) (hC.2.2.2.2.2.1 _ hco) rfl (hl.trans hC.2.2.2.1.symm) rfl hdg hfr (Nat.le_trans (Nat.add_le_add_right (lv_room (m := m) (pc := pc) (ls := ls) (rest := .ref a :: rest) hst) 12) (by omega)) kk
end GR
