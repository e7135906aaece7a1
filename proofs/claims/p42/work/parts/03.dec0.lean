/-! decode rows out of stretches of bytes: the bytes of a stretch are read once, as numbers -/
abbrev sgm (c : ByteArray) (p : Nat) (bs : List Nat) : Prop := ((c.data.toList.drop p).take bs.length).map UInt8.toNat = bs
theorem dr1 : ∀ (bs : List Nat) (j o : Nat) (t : List Nat), bs.drop j = o :: t → bs.drop (j + 1) = t
  | [], j, o, t, h => by
    have h' : ([] : List Nat) = o :: t := by rw [← h, List.drop_nil]
    cases h'
  | b :: bs, 0, o, t, h => by
    have h' : b :: bs = o :: t := h
    cases h'; rfl
  | b :: bs, j + 1, o, t, h => dr1 bs j o t h
theorem dr0 : ∀ (bs : List Nat) (j o : Nat) (t : List Nat), bs.drop j = o :: t → bs[j]? = some o
  | [], j, o, t, h => by
    have h' : ([] : List Nat) = o :: t := by rw [← h, List.drop_nil]
    cases h'
  | b :: bs, 0, o, t, h => by
    have h' : b :: bs = o :: t := h
    cases h'; rfl
  | b :: bs, j + 1, o, t, h => (List.getElem?_cons_succ).trans (dr0 bs j o t h)
theorem sg_at {c : ByteArray} {p j o : Nat} {bs t : List Nat} (hs : sgm c p bs) (hj : bs.drop j = o :: t) : ∃ h : p + j < c.size, (c[p + j]'h).toNat = o := by
  have h1 := dr0 bs j o t hj
  have h2 : (((c.data.toList.drop p).take bs.length).map UInt8.toNat)[j]? = some o := (congrArg (fun l : List Nat => l[j]?) hs).trans h1
  rw [List.getElem?_map, List.getElem?_take] at h2
  split at h2
  · rw [List.getElem?_drop] at h2
    cases hq : c.data.toList[p + j]? with
    | none => rw [hq] at h2; cases h2
    | some b =>
      rw [hq] at h2
      have hbo : b.toNat = o := Option.some.inj h2
      obtain ⟨hl, he⟩ := List.getElem?_eq_some_iff.mp hq
      exact ⟨by simpa using hl, (congrArg UInt8.toNat he).trans hbo⟩
  · cases h2
theorem rd_bind {α β : Type} {r : Decoder α} {f : α → Decoder β} {c : ByteArray} {p s : Nat} {x : α} (h : r c p = .ok (x, s)) : (r >>= f) c p = f x c s := by
  show (do let (x, s) ← r c p; f x c s : Except DecodeError (β × Nat)) = _
  rw [h]; rfl
theorem rd_map {α β : Type} {r : Decoder α} {g : α → β} {c : ByteArray} {p s : Nat} {x : α} (h : r c p = .ok (x, s)) : (g <$> r) c p = .ok (g x, s) := by
  show (do let (x, s) ← r c p; .ok (g x, s) : Except DecodeError (β × Nat)) = _
  rw [h]; rfl
theorem u1_at {c : ByteArray} {p o : Nat} (h : ∃ h : p < c.size, (c[p]'h).toNat = o) : (Reader.u1 : Decoder Nat) c p = .ok (o, p + 1) := by
  obtain ⟨h1, h2⟩ := h
  show (do if h : p < c.size then do set (p + 1); Pure.pure (c[p]'h).toNat else MonadExcept.throw (HasTruncated.truncated p) : Decoder Nat) c p = _
  rw [dif_pos h1, ← h2]; rfl
noncomputable def opS (p : Nat) : { g : Nat → Decoder Instr // Decoder.instr p = (Reader.u1 >>= g) } := ⟨_, rfl⟩
noncomputable def naS (p : Nat) : { g : Nat → Decoder Instr // Decoder.newarray p = (Reader.u1 >>= g) } := ⟨_, rfl⟩
theorem dc_run {c : ByteArray} {p o n : Nat} {i : Instr} (h1 : (Reader.u1 : Decoder Nat) c p = .ok (o, p + 1)) (h2 : (opS p).1 o c (p + 1) = .ok (i, p + n)) : decode c p = .ok (i, n) := by
  have e1 : Decoder.instr p c p = .ok (i, p + n) := by rw [(opS p).2]; exact (rd_bind h1).trans h2
  show (do let (j, s) ← Decoder.instr p c p; Pure.pure (j, s - p) : Except DecodeError (Instr × Nat)) = _
  rw [e1]
  show Except.ok (i, p + n - p) = _
  rw [Nat.add_sub_cancel_left]
theorem u1_j {c : ByteArray} {p j o : Nat} {bs t : List Nat} (hs : sgm c p bs) (hj : bs.drop j = o :: t) : (Reader.u1 : Decoder Nat) c (p + j) = .ok (o, p + j + 1) := u1_at (sg_at hs hj)
theorem u2_j {c : ByteArray} {p j a b : Nat} {bs t : List Nat} (hs : sgm c p bs) (hj : bs.drop j = a :: b :: t) : (Reader.u2 : Decoder Nat) c (p + j) = .ok (a * 256 + b, p + j + 2) :=
  (rd_bind (f := fun hi => (Reader.u1 >>= fun lo => Pure.pure (hi * 256 + lo) : Decoder Nat)) (u1_j hs hj)).trans (rd_bind (u1_j (j := j + 1) hs (dr1 _ _ _ _ hj)))
theorem sg_p {k n : Nat} (h : n < 2 ^ (k - 1)) : Reader.signed k n = Int.ofNat n := if_pos h
theorem sg_8 {n v : Nat} (h : n = 256 - v) (h1 : v ≤ 128) (h0 : 1 ≤ v) : Reader.signed 8 n = -(Int.ofNat v) := by
  show (if n < 2 ^ (8 - 1) then (n : Int) else (n : Int) - (2 ^ 8 : Nat)) = -((v : Nat) : Int)
  rw [if_neg (by omega), h]; omega
theorem sg_16 {n v : Nat} (h : n = 65536 - v) (h1 : v ≤ 32768) (h0 : 1 ≤ v) : Reader.signed 16 n = -(Int.ofNat v) := by
  show (if n < 2 ^ (16 - 1) then (n : Int) else (n : Int) - (2 ^ 16 : Nat)) = -((v : Nat) : Int)
  rw [if_neg (by omega), h]; omega
theorem bl_le {a b : Nat} (h : Nat.ble a b = true) : a ≤ b := Nat.le_of_ble_eq_true h
/-- no operand -/
theorem dc0 {c : ByteArray} {p j o : Nat} {i : Instr} {bs t : List Nat} (hs : sgm c p bs) (hj : bs.drop j = o :: t) (ho : ∀ q, (opS q).1 o = Pure.pure i) : decode c (p + j) = .ok (i, 1) :=
  dc_run (u1_j hs hj) (by rw [ho]; rfl)
/-- one byte, two bytes -/
theorem dcA {c : ByteArray} {p j o a : Nat} {f : Nat → Instr} {bs t : List Nat} (hs : sgm c p bs) (hj : bs.drop j = o :: a :: t) (ho : ∀ q, (opS q).1 o = (Reader.u1 >>= fun x => Pure.pure (f x))) : decode c (p + j) = .ok (f a, 2) :=
  dc_run (u1_j hs hj) (by rw [ho]; exact rd_bind (u1_j (j := j + 1) hs (dr1 _ _ _ _ hj)))
theorem dcB {c : ByteArray} {p j o a b v : Nat} {f : Nat → Instr} {bs t : List Nat} (hs : sgm c p bs) (hj : bs.drop j = o :: a :: b :: t) (ho : ∀ q, (opS q).1 o = (Reader.u2 >>= fun x => Pure.pure (f x))) (hv : a * 256 + b = v) : decode c (p + j) = .ok (f v, 3) :=
  dc_run (u1_j hs hj) (by rw [ho, ← hv]; exact rd_bind (u2_j (j := j + 1) hs (dr1 _ _ _ _ hj)))
/-- a byte with its sign, two bytes with their sign; what isn't below 0, what is -/
theorem dcSp {c : ByteArray} {p j o a : Nat} {f : Int → Instr} {bs t : List Nat} (hs : sgm c p bs) (hj : bs.drop j = o :: a :: t) (ho : ∀ q, (opS q).1 o = (Reader.s1 >>= fun x => Pure.pure (f x))) (hl : Nat.ble a 127 = true) : decode c (p + j) = .ok (f (Int.ofNat a), 2) :=
  dc_run (u1_j hs hj) (by
    have := bl_le hl
    rw [ho, ← sg_p (k := 8) (n := a) (by omega)]; exact rd_bind (rd_map (u1_j (j := j + 1) hs (dr1 _ _ _ _ hj))))
theorem dcSn {c : ByteArray} {p j o a v : Nat} {f : Int → Instr} {bs t : List Nat} (hs : sgm c p bs) (hj : bs.drop j = o :: a :: t) (ho : ∀ q, (opS q).1 o = (Reader.s1 >>= fun x => Pure.pure (f x))) (hv : a = 256 - v) (hl : Nat.ble v 128 = true) (h0 : Nat.ble 1 v = true) : decode c (p + j) = .ok (f (-(Int.ofNat v)), 2) :=
  dc_run (u1_j hs hj) (by rw [ho, ← sg_8 hv (bl_le hl) (bl_le h0)]; exact rd_bind (rd_map (u1_j (j := j + 1) hs (dr1 _ _ _ _ hj))))
theorem dcTp {c : ByteArray} {p j o a b v : Nat} {f : Int → Instr} {bs t : List Nat} (hs : sgm c p bs) (hj : bs.drop j = o :: a :: b :: t) (ho : ∀ q, (opS q).1 o = (Reader.s2 >>= fun x => Pure.pure (f x))) (hv : a * 256 + b = v) (hl : Nat.ble v 32767 = true) : decode c (p + j) = .ok (f (Int.ofNat v), 3) :=
  dc_run (u1_j hs hj) (by
    have := bl_le hl
    rw [ho, ← sg_p (k := 16) (n := v) (by omega), ← hv]; exact rd_bind (rd_map (u2_j (j := j + 1) hs (dr1 _ _ _ _ hj))))
theorem dcTn {c : ByteArray} {p j o a b v : Nat} {f : Int → Instr} {bs t : List Nat} (hs : sgm c p bs) (hj : bs.drop j = o :: a :: b :: t) (ho : ∀ q, (opS q).1 o = (Reader.s2 >>= fun x => Pure.pure (f x))) (hv : a * 256 + b = 65536 - v) (hl : Nat.ble v 32768 = true) (h0 : Nat.ble 1 v = true) : decode c (p + j) = .ok (f (-(Int.ofNat v)), 3) :=
  dc_run (u1_j hs hj) (by rw [ho, ← sg_16 hv (bl_le hl) (bl_le h0)]; exact rd_bind (rd_map (u2_j (j := j + 1) hs (dr1 _ _ _ _ hj))))
/-- iinc -/
theorem dcIp {c : ByteArray} {p j o a b : Nat} {bs t : List Nat} (hs : sgm c p bs) (hj : bs.drop j = o :: a :: b :: t) (ho : ∀ q, (opS q).1 o = (Reader.u1 >>= fun x => Reader.s1 >>= fun y => Pure.pure (.iinc x y))) (hl : Nat.ble b 127 = true) : decode c (p + j) = .ok (.iinc a (Int.ofNat b), 3) :=
  dc_run (u1_j hs hj) (by
    have := bl_le hl
    rw [ho, ← sg_p (k := 8) (n := b) (by omega)]; exact (rd_bind (u1_j (j := j + 1) hs (dr1 _ _ _ _ hj))).trans (rd_bind (rd_map (u1_j (j := j + 1 + 1) hs (dr1 _ _ _ _ (dr1 _ _ _ _ hj))))))
theorem dcIn {c : ByteArray} {p j o a b v : Nat} {bs t : List Nat} (hs : sgm c p bs) (hj : bs.drop j = o :: a :: b :: t) (ho : ∀ q, (opS q).1 o = (Reader.u1 >>= fun x => Reader.s1 >>= fun y => Pure.pure (.iinc x y))) (hv : b = 256 - v) (hl : Nat.ble v 128 = true) (h0 : Nat.ble 1 v = true) : decode c (p + j) = .ok (.iinc a (-(Int.ofNat v)), 3) :=
  dc_run (u1_j hs hj) (by
    rw [ho, ← sg_8 hv (bl_le hl) (bl_le h0)]; exact (rd_bind (u1_j (j := j + 1) hs (dr1 _ _ _ _ hj))).trans (rd_bind (rd_map (u1_j (j := j + 1 + 1) hs (dr1 _ _ _ _ (dr1 _ _ _ _ hj))))))
/-- newarray -/
theorem op_188 (q : Nat) : (opS q).1 188 = Decoder.newarray q := rfl
theorem dcN {c : ByteArray} {p j a : Nat} {i : Instr} {bs t : List Nat} (hs : sgm c p bs) (hj : bs.drop j = 188 :: a :: t) (ha : ∀ q, (naS q).1 a = Pure.pure i) : decode c (p + j) = .ok (i, 2) :=
  dc_run (u1_j hs hj) (by rw [op_188, (naS _).2]; exact (rd_bind (u1_j (j := j + 1) hs (dr1 _ _ _ _ hj))).trans (by rw [ha]; rfl))

theorem op_2 (q : Nat) : (opS q).1 2 = (Pure.pure (Instr.iconst (-1)) : Decoder Instr) := rfl
theorem op_3 (q : Nat) : (opS q).1 3 = (Pure.pure (Instr.iconst 0) : Decoder Instr) := rfl
theorem op_4 (q : Nat) : (opS q).1 4 = (Pure.pure (Instr.iconst 1) : Decoder Instr) := rfl
theorem op_5 (q : Nat) : (opS q).1 5 = (Pure.pure (Instr.iconst 2) : Decoder Instr) := rfl
theorem op_6 (q : Nat) : (opS q).1 6 = (Pure.pure (Instr.iconst 3) : Decoder Instr) := rfl
theorem op_7 (q : Nat) : (opS q).1 7 = (Pure.pure (Instr.iconst 4) : Decoder Instr) := rfl
theorem op_8 (q : Nat) : (opS q).1 8 = (Pure.pure (Instr.iconst 5) : Decoder Instr) := rfl
theorem op_9 (q : Nat) : (opS q).1 9 = (Pure.pure (Instr.lconst 0) : Decoder Instr) := rfl
theorem op_10 (q : Nat) : (opS q).1 10 = (Pure.pure (Instr.lconst 1) : Decoder Instr) := rfl
theorem op_16 (q : Nat) : (opS q).1 16 = (Reader.s1 >>= fun x => Pure.pure (Instr.bipush x) : Decoder Instr) := rfl
theorem op_17 (q : Nat) : (opS q).1 17 = (Reader.s2 >>= fun x => Pure.pure (Instr.sipush x) : Decoder Instr) := rfl
theorem op_18 (q : Nat) : (opS q).1 18 = (Reader.u1 >>= fun x => Pure.pure (Instr.ldc x) : Decoder Instr) := rfl
theorem op_19 (q : Nat) : (opS q).1 19 = (Reader.u2 >>= fun x => Pure.pure (Instr.ldc_w x) : Decoder Instr) := rfl
theorem op_20 (q : Nat) : (opS q).1 20 = (Reader.u2 >>= fun x => Pure.pure (Instr.ldc2_w x) : Decoder Instr) := rfl
theorem op_21 (q : Nat) : (opS q).1 21 = (Reader.u1 >>= fun x => Pure.pure (Instr.iload x) : Decoder Instr) := rfl
theorem op_22 (q : Nat) : (opS q).1 22 = (Reader.u1 >>= fun x => Pure.pure (Instr.lload x) : Decoder Instr) := rfl
theorem op_26 (q : Nat) : (opS q).1 26 = (Pure.pure (Instr.iload_n 0) : Decoder Instr) := rfl
theorem op_27 (q : Nat) : (opS q).1 27 = (Pure.pure (Instr.iload_n 1) : Decoder Instr) := rfl
theorem op_28 (q : Nat) : (opS q).1 28 = (Pure.pure (Instr.iload_n 2) : Decoder Instr) := rfl
theorem op_29 (q : Nat) : (opS q).1 29 = (Pure.pure (Instr.iload_n 3) : Decoder Instr) := rfl
theorem op_30 (q : Nat) : (opS q).1 30 = (Pure.pure (Instr.lload_n 0) : Decoder Instr) := rfl
theorem op_31 (q : Nat) : (opS q).1 31 = (Pure.pure (Instr.lload_n 1) : Decoder Instr) := rfl
theorem op_32 (q : Nat) : (opS q).1 32 = (Pure.pure (Instr.lload_n 2) : Decoder Instr) := rfl
theorem op_33 (q : Nat) : (opS q).1 33 = (Pure.pure (Instr.lload_n 3) : Decoder Instr) := rfl
theorem op_42 (q : Nat) : (opS q).1 42 = (Pure.pure (Instr.aload_n 0) : Decoder Instr) := rfl
theorem op_43 (q : Nat) : (opS q).1 43 = (Pure.pure (Instr.aload_n 1) : Decoder Instr) := rfl
theorem op_44 (q : Nat) : (opS q).1 44 = (Pure.pure (Instr.aload_n 2) : Decoder Instr) := rfl
theorem op_46 (q : Nat) : (opS q).1 46 = (Pure.pure (Instr.iaload) : Decoder Instr) := rfl
theorem op_47 (q : Nat) : (opS q).1 47 = (Pure.pure (Instr.laload) : Decoder Instr) := rfl
theorem op_50 (q : Nat) : (opS q).1 50 = (Pure.pure (Instr.aaload) : Decoder Instr) := rfl
theorem op_51 (q : Nat) : (opS q).1 51 = (Pure.pure (Instr.baload) : Decoder Instr) := rfl
theorem op_54 (q : Nat) : (opS q).1 54 = (Reader.u1 >>= fun x => Pure.pure (Instr.istore x) : Decoder Instr) := rfl
theorem op_55 (q : Nat) : (opS q).1 55 = (Reader.u1 >>= fun x => Pure.pure (Instr.lstore x) : Decoder Instr) := rfl
theorem op_59 (q : Nat) : (opS q).1 59 = (Pure.pure (Instr.istore_n 0) : Decoder Instr) := rfl
theorem op_60 (q : Nat) : (opS q).1 60 = (Pure.pure (Instr.istore_n 1) : Decoder Instr) := rfl
theorem op_61 (q : Nat) : (opS q).1 61 = (Pure.pure (Instr.istore_n 2) : Decoder Instr) := rfl
theorem op_62 (q : Nat) : (opS q).1 62 = (Pure.pure (Instr.istore_n 3) : Decoder Instr) := rfl
theorem op_64 (q : Nat) : (opS q).1 64 = (Pure.pure (Instr.lstore_n 1) : Decoder Instr) := rfl
theorem op_65 (q : Nat) : (opS q).1 65 = (Pure.pure (Instr.lstore_n 2) : Decoder Instr) := rfl
theorem op_66 (q : Nat) : (opS q).1 66 = (Pure.pure (Instr.lstore_n 3) : Decoder Instr) := rfl
theorem op_76 (q : Nat) : (opS q).1 76 = (Pure.pure (Instr.astore_n 1) : Decoder Instr) := rfl
theorem op_77 (q : Nat) : (opS q).1 77 = (Pure.pure (Instr.astore_n 2) : Decoder Instr) := rfl
theorem op_79 (q : Nat) : (opS q).1 79 = (Pure.pure (Instr.iastore) : Decoder Instr) := rfl
theorem op_80 (q : Nat) : (opS q).1 80 = (Pure.pure (Instr.lastore) : Decoder Instr) := rfl
theorem op_83 (q : Nat) : (opS q).1 83 = (Pure.pure (Instr.aastore) : Decoder Instr) := rfl
theorem op_84 (q : Nat) : (opS q).1 84 = (Pure.pure (Instr.bastore) : Decoder Instr) := rfl
theorem op_87 (q : Nat) : (opS q).1 87 = (Pure.pure (Instr.pop) : Decoder Instr) := rfl
theorem op_88 (q : Nat) : (opS q).1 88 = (Pure.pure (Instr.pop2) : Decoder Instr) := rfl
theorem op_89 (q : Nat) : (opS q).1 89 = (Pure.pure (Instr.dup) : Decoder Instr) := rfl
theorem op_92 (q : Nat) : (opS q).1 92 = (Pure.pure (Instr.dup2) : Decoder Instr) := rfl
theorem op_96 (q : Nat) : (opS q).1 96 = (Pure.pure (Instr.iadd) : Decoder Instr) := rfl
theorem op_97 (q : Nat) : (opS q).1 97 = (Pure.pure (Instr.ladd) : Decoder Instr) := rfl
theorem op_100 (q : Nat) : (opS q).1 100 = (Pure.pure (Instr.isub) : Decoder Instr) := rfl
theorem op_101 (q : Nat) : (opS q).1 101 = (Pure.pure (Instr.lsub) : Decoder Instr) := rfl
theorem op_104 (q : Nat) : (opS q).1 104 = (Pure.pure (Instr.imul) : Decoder Instr) := rfl
theorem op_105 (q : Nat) : (opS q).1 105 = (Pure.pure (Instr.lmul) : Decoder Instr) := rfl
theorem op_108 (q : Nat) : (opS q).1 108 = (Pure.pure (Instr.idiv) : Decoder Instr) := rfl
theorem op_109 (q : Nat) : (opS q).1 109 = (Pure.pure (Instr.ldiv) : Decoder Instr) := rfl
theorem op_112 (q : Nat) : (opS q).1 112 = (Pure.pure (Instr.irem) : Decoder Instr) := rfl
theorem op_113 (q : Nat) : (opS q).1 113 = (Pure.pure (Instr.lrem) : Decoder Instr) := rfl
theorem op_116 (q : Nat) : (opS q).1 116 = (Pure.pure (Instr.ineg) : Decoder Instr) := rfl
theorem op_120 (q : Nat) : (opS q).1 120 = (Pure.pure (Instr.ishl) : Decoder Instr) := rfl
theorem op_121 (q : Nat) : (opS q).1 121 = (Pure.pure (Instr.lshl) : Decoder Instr) := rfl
theorem op_122 (q : Nat) : (opS q).1 122 = (Pure.pure (Instr.ishr) : Decoder Instr) := rfl
theorem op_123 (q : Nat) : (opS q).1 123 = (Pure.pure (Instr.lshr) : Decoder Instr) := rfl
theorem op_124 (q : Nat) : (opS q).1 124 = (Pure.pure (Instr.iushr) : Decoder Instr) := rfl
theorem op_125 (q : Nat) : (opS q).1 125 = (Pure.pure (Instr.lushr) : Decoder Instr) := rfl
theorem op_126 (q : Nat) : (opS q).1 126 = (Pure.pure (Instr.iand) : Decoder Instr) := rfl
theorem op_127 (q : Nat) : (opS q).1 127 = (Pure.pure (Instr.land) : Decoder Instr) := rfl
theorem op_128 (q : Nat) : (opS q).1 128 = (Pure.pure (Instr.ior) : Decoder Instr) := rfl
theorem op_129 (q : Nat) : (opS q).1 129 = (Pure.pure (Instr.lor) : Decoder Instr) := rfl
theorem op_130 (q : Nat) : (opS q).1 130 = (Pure.pure (Instr.ixor) : Decoder Instr) := rfl
theorem op_132 (q : Nat) : (opS q).1 132 = (Reader.u1 >>= fun x => Reader.s1 >>= fun y => Pure.pure (.iinc x y) : Decoder Instr) := rfl
theorem op_133 (q : Nat) : (opS q).1 133 = (Pure.pure (Instr.i2l) : Decoder Instr) := rfl
theorem op_136 (q : Nat) : (opS q).1 136 = (Pure.pure (Instr.l2i) : Decoder Instr) := rfl
theorem op_145 (q : Nat) : (opS q).1 145 = (Pure.pure (Instr.i2b) : Decoder Instr) := rfl
theorem op_146 (q : Nat) : (opS q).1 146 = (Pure.pure (Instr.i2c) : Decoder Instr) := rfl
theorem op_147 (q : Nat) : (opS q).1 147 = (Pure.pure (Instr.i2s) : Decoder Instr) := rfl
theorem op_148 (q : Nat) : (opS q).1 148 = (Pure.pure (Instr.lcmp) : Decoder Instr) := rfl
theorem op_153 (q : Nat) : (opS q).1 153 = (Reader.s2 >>= fun x => Pure.pure (Instr.ifCond .eq x) : Decoder Instr) := rfl
theorem op_154 (q : Nat) : (opS q).1 154 = (Reader.s2 >>= fun x => Pure.pure (Instr.ifCond .ne x) : Decoder Instr) := rfl
theorem op_155 (q : Nat) : (opS q).1 155 = (Reader.s2 >>= fun x => Pure.pure (Instr.ifCond .lt x) : Decoder Instr) := rfl
theorem op_156 (q : Nat) : (opS q).1 156 = (Reader.s2 >>= fun x => Pure.pure (Instr.ifCond .ge x) : Decoder Instr) := rfl
theorem op_157 (q : Nat) : (opS q).1 157 = (Reader.s2 >>= fun x => Pure.pure (Instr.ifCond .gt x) : Decoder Instr) := rfl
theorem op_158 (q : Nat) : (opS q).1 158 = (Reader.s2 >>= fun x => Pure.pure (Instr.ifCond .le x) : Decoder Instr) := rfl
theorem op_159 (q : Nat) : (opS q).1 159 = (Reader.s2 >>= fun x => Pure.pure (Instr.if_icmp .eq x) : Decoder Instr) := rfl
theorem op_160 (q : Nat) : (opS q).1 160 = (Reader.s2 >>= fun x => Pure.pure (Instr.if_icmp .ne x) : Decoder Instr) := rfl
theorem op_161 (q : Nat) : (opS q).1 161 = (Reader.s2 >>= fun x => Pure.pure (Instr.if_icmp .lt x) : Decoder Instr) := rfl
theorem op_162 (q : Nat) : (opS q).1 162 = (Reader.s2 >>= fun x => Pure.pure (Instr.if_icmp .ge x) : Decoder Instr) := rfl
theorem op_163 (q : Nat) : (opS q).1 163 = (Reader.s2 >>= fun x => Pure.pure (Instr.if_icmp .gt x) : Decoder Instr) := rfl
theorem op_164 (q : Nat) : (opS q).1 164 = (Reader.s2 >>= fun x => Pure.pure (Instr.if_icmp .le x) : Decoder Instr) := rfl
theorem op_167 (q : Nat) : (opS q).1 167 = (Reader.s2 >>= fun x => Pure.pure (Instr.goto x) : Decoder Instr) := rfl
theorem op_172 (q : Nat) : (opS q).1 172 = (Pure.pure (Instr.ireturn) : Decoder Instr) := rfl
theorem op_173 (q : Nat) : (opS q).1 173 = (Pure.pure (Instr.lreturn) : Decoder Instr) := rfl
theorem op_177 (q : Nat) : (opS q).1 177 = (Pure.pure (Instr.return_) : Decoder Instr) := rfl
theorem op_178 (q : Nat) : (opS q).1 178 = (Reader.u2 >>= fun x => Pure.pure (Instr.getstatic x) : Decoder Instr) := rfl
theorem op_180 (q : Nat) : (opS q).1 180 = (Reader.u2 >>= fun x => Pure.pure (Instr.getfield x) : Decoder Instr) := rfl
theorem op_181 (q : Nat) : (opS q).1 181 = (Reader.u2 >>= fun x => Pure.pure (Instr.putfield x) : Decoder Instr) := rfl
theorem op_182 (q : Nat) : (opS q).1 182 = (Reader.u2 >>= fun x => Pure.pure (Instr.invokevirtual x) : Decoder Instr) := rfl
theorem op_183 (q : Nat) : (opS q).1 183 = (Reader.u2 >>= fun x => Pure.pure (Instr.invokespecial x) : Decoder Instr) := rfl
theorem op_184 (q : Nat) : (opS q).1 184 = (Reader.u2 >>= fun x => Pure.pure (Instr.invokestatic x) : Decoder Instr) := rfl
theorem op_187 (q : Nat) : (opS q).1 187 = (Reader.u2 >>= fun x => Pure.pure (Instr.new x) : Decoder Instr) := rfl
theorem op_189 (q : Nat) : (opS q).1 189 = (Reader.u2 >>= fun x => Pure.pure (Instr.anewarray x) : Decoder Instr) := rfl
theorem op_190 (q : Nat) : (opS q).1 190 = (Pure.pure (Instr.arraylength) : Decoder Instr) := rfl
theorem op_191 (q : Nat) : (opS q).1 191 = (Pure.pure (Instr.athrow) : Decoder Instr) := rfl
theorem op_199 (q : Nat) : (opS q).1 199 = (Reader.s2 >>= fun x => Pure.pure (Instr.ifnonnull x) : Decoder Instr) := rfl
theorem na_4 (q : Nat) : (naS q).1 4 = (Pure.pure (Instr.newarray .boolean) : Decoder Instr) := rfl
theorem na_8 (q : Nat) : (naS q).1 8 = (Pure.pure (Instr.newarray .byte) : Decoder Instr) := rfl
theorem na_10 (q : Nat) : (naS q).1 10 = (Pure.pure (Instr.newarray .int) : Decoder Instr) := rfl
theorem na_11 (q : Nat) : (naS q).1 11 = (Pure.pure (Instr.newarray .long) : Decoder Instr) := rfl
