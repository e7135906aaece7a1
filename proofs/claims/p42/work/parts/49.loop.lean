set_option maxHeartbeats 4000000 in
set_option maxRecDepth 100000 in
theorem lw_loop {p : Program} {e : Env} {s : State} {m : MethodId} {below : List Frame} {meth : Method} {c : Code} (l : Launch) {b L ox o : Nat} {xs : Nat → Int32} {D : va_G} {T : Nat → ClassId} {A : Nat → Prop} (hC : cX p s m #[Value.ref b] meth c RL cL_law 4 (some .boolean)) (hr : meth.sig.returnType = ret) (hX : va_X b L xs s s.heap) (hbl : b < s.heap.size) (hbA : ¬ A b) (hAs : ∀ q, A q → s.heap.size ≤ q) (hL3 : L ≤ 3072) : ∀ (fu t : Nat), 600 - t < fu → t ≤ 512 → ∀ (H : Heap) (locs : List Loc) (ls : Array Slot), (LwA D T A s ox o H locs ∨ LwB D T A s ox o H locs) → lv_has ls 4 [(3, .int (nI (6 * t))), (2, .ref o), (1, .ref ox), (0, .ref b)] → W p l e room_1 s m #[Value.ref b] below meth c H locs (82 + 7 * t) (14431 + 11233 * t) (lw_Z below #[Value.ref b] s) (F0 m 18 ls []) := by
  obtain ⟨hx, hb, -, hml, hown, hts, hlocks⟩ := id hC
  intro fu
  induction fu with
  | zero => intro t h; exact absurd h (Nat.not_lt_zero _)
  | succ fu ih =>
    intro t hmu ht H locs ls hW hl
    have hS : va_S A s.heap H locs := hW.elim LwA_S LwB_S
    refine lv_iload_n hx hb dL_law_18 rfl (lv_at hl 0 rfl) ?_
    refine lv_aload_n hx hb dL_law_19 rfl (lv_at hl 3 rfl) ?_
    refine va_slen hx hb hX hbl hbA hS dL_law_20 ?_
    refine g_vi (y := nI L) rfl ?_
    refine lv_bipush (v := nI 6) hx hb dL_law_21 (by decide +kernel) ?_
    refine lv_isub hx hb dL_law_23 ?_
    refine lv_icmp_gt (tgt := 1484) hx hb dL_law_24 (by decide) (fun c1 => ?_) (fun c1 => ?_)
    · exact lw_fin l hx hb hr hlocks hAs (by omega) (by omega) hS
    · have hin := lw_in hL3 (by omega) c1
      refine lv_aload_n hx hb dL_law_27 rfl (lv_at hl 3 rfl) ?_
      refine lv_iload_n hx hb dL_law_28 rfl (lv_at hl 0 rfl) ?_
      refine va_sld hx hb hX hbl hbA hS (vp_in_nI (by omega) (by omega)) dL_law_29 ?_
      refine lv_bipush (v := nI 63) hx hb dL_law_30 (by decide +kernel) ?_
      refine lv_iand hx hb dL_law_32 ?_
      refine lw_sw l (t := t) hC hX hbl hbA hL3 hin (by omega) (by omega) (fun H locs ls hW hl => ?_) hW hl
      refine lv_iinc (v := nI (6 * t + 6)) (lv' := [(3, .int (nI (6 * t + 6))), (2, .ref o), (1, .ref ox), (0, .ref b)]) hx hb dL_law_1478 hl (k := 0) rfl (nI_add _ 6) (by decide) rfl (fun ls hl => ?_)
      refine lv_goto (tgt := 18) hx hb dL_law_1481 (by decide) ?_
      rw [show 6 * t + 6 = 6 * (t + 1) by omega] at hl
      exact W.widen (by omega) (by omega) (ih (t + 1) (by omega) (by omega) H locs ls hW hl)
