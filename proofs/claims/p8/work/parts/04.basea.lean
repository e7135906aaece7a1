/-! ===== a layer of my own over the kit: one world word (gW), one contract word (Ct), a row for each heap instruction and call ===== -/
/-- the links to private members of nest mates, and the two array classes of objects: no words of lists, so they go along with the state -/
def nLs : List (String × Nat × MethodName × String) := [(RX7, 245, yX4_init, RX7), (RX7, 35, yX2_init, RX7), (RX7, 42, yX6_init, RX7), (RX7, 49, yX3_init, RX7), (RX7, 56, yX0_init, RX7), (RX7, 61, yX1_init, RX7), (RX7, 9, yX5_init, RX7), (RX0, 43, yX7_isIn, RX7), (RX2, 132, yX7_isWithin, RX7), (RX3, 63, yX7_bounded, RX7), (RX3, 77, yX7_isIn, RX7), (RX4, 101, yX7_bounded, RX7), (RX4, 109, yX7_isIn, RX7), (RX5, 70, yX7_isIn, RX7), (RX5, 77, yX7_bounded, RX7)]
def nW (U : State) : Prop := (∀ q ∈ nLs, va_Nw (.methodLinkNest q.1 q.2.1 q.2.2.1 q.2.2.2) U) ∧ va_AO RX5 U ∧ va_AO RX1 U
theorem nW.same {u U : State} (h : u.vm = U.vm) (hn : nW u) : nW U := ⟨fun q hq => (hn.1 q hq).same rfl h, va_AO.moved (h ▸ Vm.Alike.refl u.vm) hn.2.1, va_AO.moved (h ▸ Vm.Alike.refl u.vm) hn.2.2⟩
theorem nW.warm {u U : State} (hW : u.WarmedH U.vm) (hn : nW u) : nW U := ⟨fun q hq => (hn.1 q hq).warmM hW, va_AO.moved hW.alike hn.2.1, va_AO.moved hW.alike hn.2.2⟩
/-- the string constants by their places (D.2 9: their addresses, D.2 10: their bytes'), and two statics of the JDK: they are old cells, which nothing here writes -/
def sLs : List (String × Nat × String) := [(RX2, 58, "smith"), (RX2, 103, "cool"), (RX2, 111, "heat"), (RX2, 115, "low"), (RX2, 119, "high"), (RX2, 123, "piece"), (RX2, 68, "blows"), (RX2, 73, "burnt"), (RX8, 70, " smith cool heat low high piece blows burnt ")]
def sLen : List Nat := [5, 4, 4, 3, 4, 5, 5, 5, 44]
def sByt : List (List Int32) := [[115, 109, 105, 116, 104], [99, 111, 111, 108], [104, 101, 97, 116], [108, 111, 119], [104, 105, 103, 104], [112, 105, 101, 99, 101], [98, 108, 111, 119, 115], [98, 117, 114, 110, 116], [32, 115, 109, 105, 116, 104, 32, 99, 111, 111, 108, 32, 104, 101, 97, 116, 32, 108, 111, 119, 32, 104, 105, 103, 104, 32, 112, 105, 101, 99, 101, 32, 98, 108, 111, 119, 115, 32, 98, 117, 114, 110, 116, 32]]
def zW (D : va_G) (A : Nat → Prop) (U : State) : Prop := vk_S 9 sLen sByt (D.2 9) (D.2 10) A U U.heap ∧ va_Z "java/lang/String" "COMPACT_STRINGS" "Z" (.int 1) A U U.heap ∧ va_Zq "jdk/internal/util/Preconditions" "SIOOBE_FORMATTER" "Ljava/util/function/BiFunction;" A U U.heap ∧ ∀ (i : Nat) (q : String × Nat × String), sLs[i]? = some q → vk_R q.1 q.2.1 q.2.2 (D.2 9 i) U
theorem zW.call {D : va_G} {A B : Nat → Prop} {s U : State} {H : Heap} {locs : List Loc} (hz : zW D A s) (hS : va_S A s.heap H locs) (hU : U.heap = H) (hW : s.WarmedH U.vm) (hAB : ∀ q, B q → A q) : zW D B U := by
  subst hU
  exact ⟨vk_S.narrow (vk_S.moved hW.alike (hz.1.kept hS.2.1)) hAB, va_Z.narrow (va_Z.moved hW.alike (hz.2.1.kept hS.2.1)) hAB, va_Zq.narrow (va_Zq.moved hW.alike (hz.2.2.1.kept hS.2.1)) hAB, fun i q h => (hz.2.2.2 i q h).warm hW⟩
theorem zW.same {D : va_G} {A : Nat → Prop} {u U : State} (hv : U.vm = u.vm) (hh : U.heap = u.heap) (hz : zW D A u) : zW D A U := by
  have ha : u.vm.Alike U.vm := hv ▸ Vm.Alike.refl u.vm
  unfold zW
  rw [hh]
  exact ⟨vk_S.moved ha hz.1, va_Z.moved ha hz.2.1, va_Zq.moved ha hz.2.2.1, fun i q h => (hz.2.2.2 i q h).same hv⟩
/-- the array classes of the program -/
abbrev ty6 (T : Nat → ClassId) : List (ClassId × FieldType) := [(T 0, .int), (T 1, .long), (T 2, .boolean), (T 3, .byte), (T 4, .object RX5), (T 5, .object RX1)]
theorem g_good {ws : List Cond} (h : ∀ w ∈ ws, w ∈ gT) : GoodIn gT ws := fun w hw => ⟨h w hw, good_of_word (gT_good w (h w hw))⟩
/-- a world: tables, cells, apartness, what has changed since the method's start -/
def gW (D : va_G) (T : Nat → ClassId) (A : Nat → Prop) (s : State) (ws : va_W) (H : Heap) (locs : List Loc) : Prop :=
  va_K D vwCl (ty6 T) s ∧ va_P D vwCl ws H ∧ va_D A ws ∧ va_S A s.heap H locs ∧ (∀ q, s.heap.size ≤ q → A q) ∧ nW s ∧ zW D A s
theorem va_P.subm {D : va_G} {cl : List vw_C} {ws ws' : va_W} {H : Heap} (h : va_P D cl ws H) (is : List Nat) (hs : is.map (fun i => ws[i]?) = ws'.map some) : va_P D cl ws' H := by
  intro k q hk
  have h1 : (ws'.map some)[k]? = some (some q) := by rw [List.getElem?_map, hk]; rfl
  rw [← hs, List.getElem?_map] at h1
  cases h2 : is[k]? with
  | none => rw [h2] at h1; cases h1
  | some i => rw [h2] at h1; exact h i q (Option.some.inj h1)
theorem gW.sub {D : va_G} {T : Nat → ClassId} {A : Nat → Prop} {s : State} {ws ws' : va_W} {H : Heap} {locs : List Loc} (V : gW D T A s ws H locs) (is : List Nat) (hn : va_nd is = true) (hs : is.map (fun i => ws[i]?) = ws'.map some) : gW D T A s ws' H locs :=
  ⟨V.1, V.2.1.subm is hs, V.2.2.1.sub is hn hs, V.2.2.2⟩
theorem gW.eq {D : va_G} {T : Nat → ClassId} {A : Nat → Prop} {s : State} {ws ws' : va_W} {H : Heap} {locs : List Loc} (V : gW D T A s ws H locs) (h : ws = ws') : gW D T A s ws' H locs := h ▸ V
/-- the context of a method's body -/
def cX (p : Program) (s : State) (m : MethodId) (args : Array Value) (meth : Method) (c : Code) (own : String) (cc : ByteArray) (nL : Nat) (rt : Option FieldType) : Prop :=
  p.tables.exec = Jvm.exec ∧ c.code = cc ∧ meth.sig.returnType = rt ∧ c.maxLocals = nL ∧ s.vm.findClass own = some m.cls ∧ (∀ w ∈ gT, w.before args s = true) ∧ meth.locks = false
/-- the room of a method whose calls go d deep, and that makes k cells of n slots -/
abbrev rmD (d k n : Nat) : Room := { frames := d, cells := k, slots := n, locals := 64 * d }
/-- a contract's start and end, and the contract -/
def gP (D : va_G) (T : Nat → ClassId) (wc : va_W) (sz : Nat) : State → Prop := fun U => U.heap.size = sz ∧ va_P D vwCl wc U.heap ∧ va_K D vwCl (ty6 T) U ∧ va_D (fun _ => True) wc ∧ nW U ∧ zW D (va_A wc sz) U
def gQ (D : va_G) (A : Nat → Prop) (Qr : Option Value → va_W → Prop) : Array Value → State → Outcome → State → Prop := fun _ st oc t => (∃ (r : Option Value) (w1 : va_W), oc = .returned r ∧ Qr r w1 ∧ va_P D vwCl w1 t.heap ∧ va_D A w1) ∧ va_F A st t
def Ct (l : Launch) (y : MethodName) (cc : ByteArray) (maxL : Nat) (ret : Option FieldType) (d k n : Nat) (D : va_G) (T : Nat → ClassId) (as : List Value) (wc : va_W) (Qr : Option Value → va_W → Prop) : Prop :=
  ∀ sz : Nat, Met l y (Cond.code y cc maxL ret :: gT) (rmD d k n) (va_Pc as (gP D T wc sz)) (gQ D (va_A wc sz) Qr) k n (va_A wc sz)
/-- a contract out of the walk of its body -/
theorem Ct.of {l : Launch} {y : MethodName} {d k n : Nat} {D : va_G} {T : Nat → ClassId} {as : List Value} {wc : va_W} {Qr : Option Value → va_W → Prop} {cc : ByteArray} {maxL : Nat} {ret : Option FieldType}
    (hy : plainName y.cls = true) (hle : (lg_sl as).length ≤ maxL)
    (body : ∀ (p : Program) (e : Env) (s : State) (m : MethodId) (args : Array Value) (below : List Frame) (meth : Method) (c : Code) (A : Nat → Prop) (ls : Array Slot), cX p s m args meth c y.cls cc maxL ret → meth.name = y.name → gW D T A s wc s.heap [] → lv_has ls maxL (lv_args 0 as) →
      W p l e (rmD d k n) s m args below meth c s.heap [] 0 0 (MQ below (gQ D A Qr) args s k n A) (F0 m 0 ls [])) : Ct l y cc maxL ret d k n D T as wc Qr := by
  intro sz
  refine Met.ofW (cc := cc) (maxL := maxL) (ret := ret) hy rfl ?_
  intro p e s m args below meth c s₁ B hml hv
  obtain ⟨rfl, hsz, hP, hK, hD0, hN⟩ := hv
  subst hsz
  have hl := lv_entry as (n := maxL) hle
  rw [lg_entry_eq]
  refine body p e s m _ below meth c _ _ ⟨B.exec, B.bytes, B.returns, hml, findClass_of_methodNamed B.named, fun w h => atoms_spec (ws := Cond.code y cc maxL ret :: gT) B.pre w (List.mem_cons_of_mem _ h), B.notSynchronized⟩ (name_of_methodNamed B.named B.method).1 ⟨hK, hP, hD0.self, va_S.rf, fun q h => Or.inr h, hN⟩ hl
theorem b_eq {a b : Nat} (ha : a < 2147483648) (hb : b < 2147483648) (h : nI a = nI b) : a = b := (nI_eq ha hb).mp h
theorem b_ne {a b : Nat} (_ : a < 2147483648) (_ : b < 2147483648) (h : ¬ nI a = nI b) : a ≠ b := fun e => h (by rw [e])
theorem b_lt {a b : Nat} (ha : a < 2147483648) (hb : b < 2147483648) (h : nI a < nI b) : a < b := (nI_ltI ha hb).mp h
theorem b_nlt {a b : Nat} (ha : a < 2147483648) (hb : b < 2147483648) (h : ¬ nI a < nI b) : b ≤ a := Nat.le_of_not_lt (fun e => h ((nI_ltI ha hb).mpr e))
theorem b_le {a b : Nat} (ha : a < 2147483648) (hb : b < 2147483648) (h : nI a ≤ nI b) : a ≤ b := (nI_leI ha hb).mp h
theorem b_nle {a b : Nat} (ha : a < 2147483648) (hb : b < 2147483648) (h : ¬ nI a ≤ nI b) : b < a := Nat.lt_of_not_le (fun e => h ((nI_leI ha hb).mpr e))
theorem g_out {x : Int32} (lo hi : Int) (f : ∀ k : Int, lo ≤ k → k ≤ hi → x.toInt ≠ k) : x.toInt < lo ∨ hi < x.toInt := by
  rcases Int.lt_or_le x.toInt lo with h | h
  · exact Or.inl h
  · rcases Int.lt_or_le hi x.toInt with h2 | h2
    · exact Or.inr h2
    · exact absurd rfl (f x.toInt h h2)
theorem g_out2 {x y : Int32} {n : Int} (h : x.toInt = n) (hy : y.toInt = n) : x = y := Int32.toInt_inj.mp (h.trans hy.symm)
