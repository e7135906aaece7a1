/-! THE CLAIM OUT OF ONE WALK OF THE LAW'S BODY. Your part is whole_start (and what it stands on); all else here is the same for every law, but numbers. -/
def R_law : String := "BlownNextLaw"
def lw_P (b : Addr) (xs : List Int32) (args : Array Value) (s : State) : Prop := args = #[.ref b] ∧ s.IntsAt b xs ∧ xs.length ≤ 3072 ∧ (Jvm.Cond.and given_1 narrow_1).before args s = true
def lw_Q (_ : Array Value) (s : State) (o : Outcome) (t : State) : Prop := o = .returned (some (.int 1)) ∧ Framed s o t [] 600000 7302250
def lw_Z (below : List Frame) (a : Array Value) (s : State) : State → Prop := fun t => ∃ o, t.status = .running ∧ Ended t below o ∧ lw_Q a s o t
/-- the law's own end, with 1 on the stack, nothing written that was there before, its room as the claim has it -/
theorem lw_ret {p : Program} {l : Launch} {e : Env} {s : State} {m : MethodId} {below : List Frame} {meth : Method} {c : Code} {b : Nat} (hx : p.tables.exec = Jvm.exec) (hb : c.code = code) (hr : meth.sig.returnType = ret) (hlocks : meth.locks = false) {pc : Nat} {H : Heap} {ls : Array Slot} (hdg : decode code pc = .ok (.ireturn, 1)) : W p l e room_1 s m #[Value.ref b] below meth c H [] 600000 7302250 (lw_Z below #[Value.ref b] s) (F0 m pc ls [.int 1]) := by
  intro T hT X
  obtain ⟨fs, hret, hrun, hended, hW, hframe⟩ := X.leave (v := some (.int 1)) (hlocks := hlocks) (fun h => by rw [hr] at h; cases h)
  have hmeth' : T.vm.method? m = some meth := X.method'
  refine ⟨T.setFrames fs, ?_, .returned (some (.int 1)), hrun, hended, rfl, ⟨_, rfl⟩, hW, hframe⟩
  jvm_step X.here [X.here.top, hx, hb, hdg, hmeth', hr, ret, narrow_b1]
  (try refine ⟨rfl, ?_⟩); (try refine ⟨rfl, ?_⟩)
  first | (intro acts; rw [hret _ acts rfl rfl rfl]) | rw [hret _ _ rfl rfl rfl]
  exact Steps.refl _
/-- what holds at the law's entry: the machine, the code, the tables' words (any of lw_tbl by 'hts w (by decide +kernel)'), the script of L ints xs at the cell b, what the Statement gives of the start (any of its parts by flat_of_before) -/
def lw_At (p : Program) (s : State) (m : MethodId) (meth : Method) (c : Code) (b L : Nat) (xs : Nat → Int32) : Prop :=
  p.tables.exec = Jvm.exec ∧ c.code = code ∧ meth.sig.returnType = ret ∧ c.maxLocals = 4 ∧ s.vm.findClass R_law = some m.cls ∧ (∀ w ∈ lw_tbl, w.before #[Value.ref b] s = true) ∧ va_X b L xs s s.heap ∧ b < s.heap.size ∧ meth.locks = false ∧ (Jvm.Cond.and given_1 narrow_1).before #[Value.ref b] s = true

theorem g_arr {args : Array Value} {s : State} {ty : FieldType} (hpr : ∀ C, ty ≠ .object C) (h : (Cond.arrayClass ty).before args s = true) : ∃ cA : ClassId, ArrOfT s cA ty ∧ va_RA s cA ty := by
  obtain ⟨cA, k, comp, h1, h2, h3⟩ := Cond.arrayClass_spec h
  refine ⟨cA, fun n z => ⟨fun k h => (by cases h), k, h2, comp, h3⟩, ?_⟩
  cases ty with
  | object C => exact absurd rfl (hpr C)
  | _ => exact h1
theorem g_arq {args : Array Value} {s : State} {C : String} (h : (Cond.arrayOver (.object C)).before args s = true) : ∃ cA : ClassId, ArrOfT s cA (.object C) ∧ va_RA s cA (.object C) := by
  obtain ⟨comp, cA, k, h1, -, h2, h3, h4⟩ := Cond.arrayOver_spec h
  exact ⟨cA, fun n z => ⟨fun k h => (by cases h), k, h2, comp, h3⟩, k, comp, h2, h3, h1, h4⟩
def sTm (i : Nat) : Term := match sLs[i]? with
  | some q => .string q.1 q.2.1
  | none => .string "" 0
set_option maxRecDepth 100000 in
theorem fl_ex : ∀ i, i < 9 → Cond.exactly (sTm i) "java/lang/String" ∈ flatC (Jvm.Cond.and given_1 narrow_1) := by decide +kernel
set_option maxRecDepth 100000 in
theorem fl_co : ∀ i, i < 9 → Cond.eq (.field (sTm i) "java/lang/String" "coder" "B") (.int 0) ∈ flatC (Jvm.Cond.and given_1 narrow_1) := by decide +kernel
set_option maxRecDepth 100000 in
theorem fl_ar : ∀ i, i < 9 → Cond.arrayOf (.field (sTm i) "java/lang/String" "value" "[B") .byte ∈ flatC (Jvm.Cond.and given_1 narrow_1) := by decide +kernel
set_option maxRecDepth 100000 in
theorem fl_le : ∀ i, i < 9 → Cond.eq (.length (.field (sTm i) "java/lang/String" "value" "[B")) (.int (Int32.ofNat (sLen.getD i 0))) ∈ flatC (Jvm.Cond.and given_1 narrow_1) := by decide +kernel
set_option maxRecDepth 100000 in
theorem fl_el : ∀ i, i < 9 → ∀ j, j < sLen.getD i 0 → Cond.eq (.elem (.field (sTm i) "java/lang/String" "value" "[B") (.int (Int32.ofNat j))) (.int ((sByt.getD i []).getD j 0)) ∈ flatC (Jvm.Cond.and given_1 narrow_1) := by decide +kernel
set_option maxRecDepth 100000 in
theorem fl_ne : ∀ i, i < 9 → ∀ j, j < 9 → i ≠ j → (Cond.not (Cond.eq (sTm i) (sTm j)) ∈ flatC (Jvm.Cond.and given_1 narrow_1) ∨ Cond.not (Cond.eq (sTm j) (sTm i)) ∈ flatC (Jvm.Cond.and given_1 narrow_1)) := by decide +kernel
set_option maxRecDepth 100000 in
theorem fl_cs : Cond.eq (.static "java/lang/String" "COMPACT_STRINGS" "Z") (.int 1) ∈ flatC (Jvm.Cond.and given_1 narrow_1) := by decide +kernel
set_option maxRecDepth 100000 in
theorem fl_fm : Cond.isRef (.static "jdk/internal/util/Preconditions" "SIOOBE_FORMATTER" "Ljava/util/function/BiFunction;") ∈ flatC (Jvm.Cond.and given_1 narrow_1) := by decide +kernel
theorem sl_31 : ∀ i, i < 9 → sLen.getD i 0 < 2 ^ 31 := by decide +kernel
theorem g_start {args : Array Value} {s : State} {A : Nat → Prop} (hts : ∀ w ∈ lw_tbl, w.before args s = true) (hgv : (Jvm.Cond.and given_1 narrow_1).before args s = true) (hA : ∀ a : Nat, a < s.heap.size → ¬ A a) : ∃ (D : va_G) (T : Nat → ClassId), va_K D vwCl (ty6 T) s ∧ nW s ∧ zW D A s := by
  have htg : ∀ w ∈ gT, w.before args s = true := fun w h => hts w (gT_tbl w h)
  have hs := flat_of_before _ hgv
  obtain ⟨c0, i0, k0⟩ := u_known (C := RX0) (T := TX0) (N := 3) (n := 3) htg uwX0 (htg _ w_206)
  obtain ⟨c1, i1, k1⟩ := u_known (C := RX1) (T := TX1) (N := 4) (n := 4) htg uwX1 (htg _ w_223)
  obtain ⟨c2, i2, k2⟩ := u_known (C := RX2) (T := TX2) (N := 8) (n := 8) htg uwX2 (htg _ w_123)
  obtain ⟨c3, i3, k3⟩ := u_known (C := RX3) (T := TX3) (N := 6) (n := 6) htg uwX3 (htg _ w_178)
  obtain ⟨c4, i4, k4⟩ := u_known (C := RX4) (T := TX4) (N := 7) (n := 7) htg uwX4 (htg _ w_708)
  obtain ⟨c5, i5, k5⟩ := u_known (C := RX5) (T := TX5) (N := 15) (n := 15) htg uwX5 (htg _ w_28)
  obtain ⟨c6, i6, k6⟩ := u_known (C := RX6) (T := TX6) (N := 3) (n := 3) htg uwX6 (htg _ w_159)
  obtain ⟨c7, i7, k7⟩ := u_known (C := RX7) (T := TX7) (N := 10) (n := 10) htg uwX7 (htg _ w_20)
  obtain ⟨c8, i8, k8⟩ := u_known (C := RX8) (T := TX8) (N := 34) (n := 34) htg uwX8 (htg _ w_907)
  obtain ⟨t0, r0⟩ := g_arr (ty := .int) (fun C h => by cases h) (htg _ w_118)
  obtain ⟨t1, r1⟩ := g_arr (ty := .long) (fun C h => by cases h) (htg _ w_248)
  obtain ⟨t2, r2⟩ := g_arr (ty := .boolean) (fun C h => by cases h) (htg _ w_156)
  obtain ⟨t3, r3⟩ := g_arr (ty := .byte) (fun C h => by cases h) (htg _ w_157)
  obtain ⟨t4, r4⟩ := g_arq (hts _ t_119)
  obtain ⟨t5, r5⟩ := g_arq (hts _ t_121)
  obtain ⟨adK, adV, hvk, hev⟩ := vk_Sof (A := A) (tm := sTm) (len := sLen) (byt := sByt) sl_31 (fun i h => hs _ (fl_ex i h)) (fun i h => hs _ (fl_co i h)) (fun i h => hs _ (fl_ar i h)) (fun i h => hs _ (fl_le i h)) (fun i h j hj => hs _ (fl_el i h j hj)) (fun i j hi hj hij => (fl_ne i hi j hj hij).imp (fun q => hs _ q) (fun q => hs _ q)) hA
  refine ⟨(fun k => if k = 0 then c0 else if k = 1 then c1 else if k = 2 then c2 else if k = 3 then c3 else if k = 4 then c4 else if k = 5 then c5 else if k = 6 then c6 else if k = 7 then c7 else c8, fun k => if k = 0 then i0 else if k = 1 then i1 else if k = 2 then i2 else if k = 3 then i3 else if k = 4 then i4 else if k = 5 then i5 else if k = 6 then i6 else if k = 7 then i7 else if k = 8 then i8 else if k = 9 then adK else adV), fun k => if k = 0 then t0 else if k = 1 then t1 else if k = 2 then t2 else if k = 3 then t3 else if k = 4 then t4 else t5, ⟨?_, ?_⟩, ⟨?_, ?_, ?_⟩, hvk, va_Zof (hts _ t_335) (htg _ w_12) (va_eqt (hs _ fl_cs)) hA, va_Zqof (hts _ t_351) (htg _ w_14) (hs _ fl_fm) hA, ?_⟩
  · intro k q hq
    match k, hq with
    | 0, hq => cases hq; exact k0
    | 1, hq => cases hq; exact k1
    | 2, hq => cases hq; exact k2
    | 3, hq => cases hq; exact k3
    | 4, hq => cases hq; exact k4
    | 5, hq => cases hq; exact k5
    | 6, hq => cases hq; exact k6
    | 7, hq => cases hq; exact k7
    | 8, hq => cases hq; exact k8
    | k + 9, hq => simp [vwCl] at hq
  · intro k q hq
    match k, hq with
    | 0, hq => cases hq; exact r0
    | 1, hq => cases hq; exact r1
    | 2, hq => cases hq; exact r2
    | 3, hq => cases hq; exact r3
    | 4, hq => cases hq; exact r4
    | 5, hq => cases hq; exact r5
    | k + 6, hq => simp [ty6] at hq
  · exact (List.forall_mem_cons.mpr ⟨hts _ t_709, (List.forall_mem_cons.mpr ⟨hts _ t_124, (List.forall_mem_cons.mpr ⟨hts _ t_160, (List.forall_mem_cons.mpr ⟨hts _ t_179, (List.forall_mem_cons.mpr ⟨hts _ t_207, (List.forall_mem_cons.mpr ⟨hts _ t_224, (List.forall_mem_cons.mpr ⟨hts _ t_29, (List.forall_mem_cons.mpr ⟨hts _ t_809, (List.forall_mem_cons.mpr ⟨hts _ t_382, (List.forall_mem_cons.mpr ⟨hts _ t_623, (List.forall_mem_cons.mpr ⟨hts _ t_622, (List.forall_mem_cons.mpr ⟨hts _ t_776, (List.forall_mem_cons.mpr ⟨hts _ t_781, (List.forall_mem_cons.mpr ⟨hts _ t_470, (List.forall_mem_cons.mpr ⟨hts _ t_487, (fun _ h => absurd h List.not_mem_nil)⟩)⟩)⟩)⟩)⟩)⟩)⟩)⟩)⟩)⟩)⟩)⟩)⟩)⟩)⟩)
  · exact hts _ t_119
  · exact hts _ t_121
  · intro i q hq
    match i, hq with
    | 0, hq => cases hq; exact vk_R.of (hts _ t_321) (hev 0 (by decide))
    | 1, hq => cases hq; exact vk_R.of (hts _ t_383) (hev 1 (by decide))
    | 2, hq => cases hq; exact vk_R.of (hts _ t_388) (hev 2 (by decide))
    | 3, hq => cases hq; exact vk_R.of (hts _ t_389) (hev 3 (by decide))
    | 4, hq => cases hq; exact vk_R.of (hts _ t_390) (hev 4 (by decide))
    | 5, hq => cases hq; exact vk_R.of (hts _ t_394) (hev 5 (by decide))
    | 6, hq => cases hq; exact vk_R.of (hts _ t_399) (hev 6 (by decide))
    | 7, hq => cases hq; exact vk_R.of (hts _ t_404) (hev 7 (by decide))
    | 8, hq => cases hq; exact vk_R.of (hts _ t_1041) (hev 8 (by decide))
    | i + 9, hq => simp [sLs] at hq
