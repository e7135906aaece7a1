theorem pred_bd40 {n : Nat} {z : Int32} (hn : n ≤ 40) (h1 : ¬ z < nI 0) (h2 : ¬ nI n - nI 1 < z) : bd z n := by
  by_cases h0 : n = 0
  · subst h0
    exfalso
    have e : nI 0 - nI 1 = -1 := by decide +kernel
    rw [e] at h2
    rw [Int32.lt_iff_toInt_lt] at h1 h2
    have a1 : (nI 0).toInt = 0 := by decide +kernel
    have a2 : (-1 : Int32).toInt = -1 := by decide +kernel
    omega
  · rw [nI_sub (by omega)] at h2
    obtain ⟨j, hj1, hj2, e⟩ := g_rng (by decide) (by omega) h1 h2
    exact ⟨j, by omega, e⟩

def q_x_cold (T : Nat → ClassId) (o : Nat) (i : Int32) (n0 : Nat) (s0 : Nat) (im : Nat) (iz : Nat) (rw : Nat) (t0 : Nat) (u0 : Nat) (h0 : Nat) (y0 : Nat) (sv : Value) (nn : Nat) (nm : Int32) (nl : Int32) (no : Int32) (nu : Int32) (n1 : Nat) (n2 : Nat) (n3 : Nat) (n4 : Nat) (n5 : Nat) (n6 : Nat) (n7 : Nat) (n8 : Nat) (n9 : Nat) (n10 : Nat) (nf2 : Nat → Int32) (nf3 : Nat → Int32) (nf4 : Nat → Int32) : Option Value → va_W → Prop := fun rr ww => (∃ (z : Int32), rr = some (.int z) ∧ ww = [(o, .inr (7, [.ref n0, .ref s0, .ref im, .ref iz, .ref rw, .ref t0, .ref u0, .ref h0, .ref y0, sv])), (n0, .inr (5, [.int (nI nn), .int nm, .int nl, .int no, .int nu, .ref n1, .ref n2, .ref n3, .ref n4, .ref n5, .ref n6, .ref n7, .ref n8, .ref n9, .ref n10])), (n2, .inl (T 0, 10, .inl nf2)), (n3, .inl (T 0, 10, .inl nf3)), (n4, .inl (T 0, 10, .inl nf4))])
set_option maxHeartbeats 4000000 in
set_option maxRecDepth 100000 in
theorem x_cold (l : Launch) (D : va_G) (T : Nat → ClassId) (o : Nat) (i : Int32) (n0 : Nat) (s0 : Nat) (im : Nat) (iz : Nat) (rw : Nat) (t0 : Nat) (u0 : Nat) (h0 : Nat) (y0 : Nat) (sv : Value) (nn : Nat) (nm : Int32) (nl : Int32) (no : Int32) (nu : Int32) (n1 : Nat) (n2 : Nat) (n3 : Nat) (n4 : Nat) (n5 : Nat) (n6 : Nat) (n7 : Nat) (n8 : Nat) (n9 : Nat) (n10 : Nat) (nf2 : Nat → Int32) (nf3 : Nat → Int32) (nf4 : Nat → Int32) (h_n : nn ≤ 10) : Ct l yX7_cold cX7_cold 3 (some .int) 1 0 0 D T [.ref o, .int i] [(o, .inr (7, [.ref n0, .ref s0, .ref im, .ref iz, .ref rw, .ref t0, .ref u0, .ref h0, .ref y0, sv])), (n0, .inr (5, [.int (nI nn), .int nm, .int nl, .int no, .int nu, .ref n1, .ref n2, .ref n3, .ref n4, .ref n5, .ref n6, .ref n7, .ref n8, .ref n9, .ref n10])), (n2, .inl (T 0, 10, .inl nf2)), (n3, .inl (T 0, 10, .inl nf3)), (n4, .inl (T 0, 10, .inl nf4))] (q_x_cold T o i n0 s0 im iz rw t0 u0 h0 y0 sv nn nm nl no nu n1 n2 n3 n4 n5 n6 n7 n8 n9 n10 nf2 nf3 nf4) := by
  refine Ct.of (cc := cX7_cold) (maxL := 3) (ret := (some .int)) (by decide) (Nat.le_of_ble_eq_true rfl) ?_
  intro p e s m args below meth c A ls hC hnm V hl
  obtain ⟨hx, hb, hr, hml, hown, hts, hlocks⟩ := id hC
  generalize hH : s.heap = H at V ⊢
  clear hH
  have hl : lv_has ls 3 [(0, .ref o), (1, .int i)] := hl
  generalize hlo : ([] : List Loc) = locs at V ⊢
  clear hlo
  refine lv_aload_n hx hb dX7_cold_0 rfl (lv_at hl 0 rfl) ?_
  refine g_get hC V (ci := 7) uwX7 0 rfl rfl 0 (by decide) w_249 rfl rfl dX7_cold_1 ?_
  refine lv_iload_n hx hb dX7_cold_4 rfl (lv_at hl 1 rfl) ?_
  refine g_callVU (nA := 1) hC V hl.1 (s_isSmith l D T n0 i nn nm nl no nu n1 n2 n3 n4 n5 n6 n7 n8 n9 n10 (by first | assumption | omega)) w_425 w_426 w_427 w_3 w_428 (by decide +kernel) rfl ⟨(Nat.le_of_ble_eq_true rfl), (Nat.le_of_ble_eq_true rfl)⟩ 1 (ci := 5) rfl rfl [1] rfl rfl (Nat.le_of_ble_eq_true rfl) dX7_cold_5 ⟨(Nat.le_of_ble_eq_true rfl), (Nat.le_of_ble_eq_true rfl)⟩ rfl (fun r w1 H locs hQ V => ?_)
  rcases hQ with ⟨j_1, rfl, rfl, f_2, f_3⟩ | ⟨rfl, rfl, f_4⟩
  · have V : gW D T A s [(o, .inr (7, [.ref n0, .ref s0, .ref im, .ref iz, .ref rw, .ref t0, .ref u0, .ref h0, .ref y0, sv])), (n0, .inr (5, [.int (nI nn), .int nm, .int nl, .int no, .int nu, .ref n1, .ref n2, .ref n3, .ref n4, .ref n5, .ref n6, .ref n7, .ref n8, .ref n9, .ref n10])), (n2, .inl (T 0, 10, .inl nf2)), (n3, .inl (T 0, 10, .inl nf3)), (n4, .inl (T 0, 10, .inl nf4))] H locs := V _ [1] rfl rfl rfl (by decide +kernel) rfl
    show W p l e _ s m args below meth c H locs _ _ _ (F0 m 8 ls [.int (nI 1)])
    rw [f_2] at hl
    refine lv_if_ne (tgt := 14) hx hb dX7_cold_8 (by decide) (fun _ => ?_) (fun c => absurd (show (nI 1) = 0 from c) (by decide +kernel))
    refine lv_aload_n hx hb dX7_cold_14 rfl (lv_at hl 0 rfl) ?_
    refine g_get hC V (ci := 7) uwX7 0 rfl rfl 0 (by decide) w_249 rfl rfl dX7_cold_15 ?_
    refine g_get hC V (ci := 5) uwX5 1 rfl rfl 7 (by decide) w_65 rfl rfl dX7_cold_18 ?_
    refine lv_iload_n hx hb dX7_cold_21 rfl (lv_at hl 1 rfl) ?_
    refine g_iald hC V 3 rfl (vp_in_nI (by omega) (by omega)) (v := (nf3 j_1)) (congrArg _ (nI_clamp (by omega))) dX7_cold_22 ?_
    refine lv_aload_n hx hb dX7_cold_23 rfl (lv_at hl 0 rfl) ?_
    refine g_get hC V (ci := 7) uwX7 0 rfl rfl 0 (by decide) w_249 rfl rfl dX7_cold_24 ?_
    refine g_get hC V (ci := 5) uwX5 1 rfl rfl 8 (by decide) w_69 rfl rfl dX7_cold_27 ?_
    refine lv_iload_n hx hb dX7_cold_30 rfl (lv_at hl 1 rfl) ?_
    refine g_iald hC V 4 rfl (vp_in_nI (by omega) (by omega)) (v := (nf4 j_1)) (congrArg _ (nI_clamp (by omega))) dX7_cold_31 ?_
    refine lv_isub hx hb dX7_cold_32 ?_
    refine lv_istore_n (lv' := [(2, .int ((nf3 j_1) - (nf4 j_1))), (0, .ref o), (1, .int (nI j_1))]) hx hb dX7_cold_33 rfl hl (by decide) rfl (fun ls hl => ?_)
    refine lv_iload_n hx hb dX7_cold_34 rfl (lv_at hl 0 rfl) ?_
    refine lv_if_ge (tgt := 40) hx hb dX7_cold_35 (by decide) (fun c_5 => ?_) (fun c_5 => ?_)
    · skip
      refine lv_aload_n hx hb dX7_cold_40 rfl (lv_at hl 1 rfl) ?_
      refine g_get hC V (ci := 7) uwX7 0 rfl rfl 0 (by decide) w_249 rfl rfl dX7_cold_41 ?_
      refine g_get hC V (ci := 5) uwX5 1 rfl rfl 6 (by decide) w_60 rfl rfl dX7_cold_44 ?_
      refine lv_iload_n hx hb dX7_cold_47 rfl (lv_at hl 2 rfl) ?_
      refine g_iald hC V 2 rfl (vp_in_nI (by omega) (by omega)) (v := (nf2 j_1)) (congrArg _ (nI_clamp (by omega))) dX7_cold_48 ?_
      refine lv_if_le (tgt := 64) hx hb dX7_cold_49 (by decide) (fun c_6 => ?_) (fun c_6 => ?_)
      · skip
        refine lv_iconst (v := (-1)) hx hb dX7_cold_64 (by decide +kernel) ?_
        exact g_iret (Qr := (q_x_cold T o i n0 s0 im iz rw t0 u0 h0 y0 sv nn nm nl no nu n1 n2 n3 n4 n5 n6 n7 n8 n9 n10 nf2 nf3 nf4)) hC V ⟨(Nat.le_of_ble_eq_true rfl), (Nat.le_of_ble_eq_true rfl)⟩ ⟨(-1), rfl, rfl⟩ dX7_cold_65
      · skip
        have hgn : ¬ nf2 j_1 = 0 := fun e => c_6 (by rw [e]; decide +kernel)
        refine lv_aload_n hx hb dX7_cold_52 rfl (lv_at hl 1 rfl) ?_
        refine g_get hC V (ci := 7) uwX7 0 rfl rfl 0 (by decide) w_249 rfl rfl dX7_cold_53 ?_
        refine g_get hC V (ci := 5) uwX5 1 rfl rfl 8 (by decide) w_69 rfl rfl dX7_cold_56 ?_
        refine lv_iload_n hx hb dX7_cold_59 rfl (lv_at hl 2 rfl) ?_
        refine g_iald hC V 4 rfl (vp_in_nI (by omega) (by omega)) (v := (nf4 j_1)) (congrArg _ (nI_clamp (by omega))) dX7_cold_60 ?_
        refine lv_if_ne (tgt := 66) hx hb dX7_cold_61 (by decide) (fun c_7 => ?_) (fun c_7 => ?_)
        · skip
          refine lv_iload_n hx hb dX7_cold_66 rfl (lv_at hl 0 rfl) ?_
          refine lv_aload_n hx hb dX7_cold_67 rfl (lv_at hl 1 rfl) ?_
          refine g_get hC V (ci := 7) uwX7 0 rfl rfl 0 (by decide) w_249 rfl rfl dX7_cold_68 ?_
          refine g_get hC V (ci := 5) uwX5 1 rfl rfl 6 (by decide) w_60 rfl rfl dX7_cold_71 ?_
          refine lv_iload_n hx hb dX7_cold_74 rfl (lv_at hl 2 rfl) ?_
          refine g_iald hC V 2 rfl (vp_in_nI (by omega) (by omega)) (v := (nf2 j_1)) (congrArg _ (nI_clamp (by omega))) dX7_cold_75 ?_
          refine lv_idiv hx hb dX7_cold_76 (by assumption) ?_
          refine lv_iconst (v := (nI 1)) hx hb dX7_cold_77 (by decide +kernel) ?_
          refine lv_iadd hx hb dX7_cold_78 ?_
          exact g_iret (Qr := (q_x_cold T o i n0 s0 im iz rw t0 u0 h0 y0 sv nn nm nl no nu n1 n2 n3 n4 n5 n6 n7 n8 n9 n10 nf2 nf3 nf4)) hC V ⟨(Nat.le_of_ble_eq_true rfl), (Nat.le_of_ble_eq_true rfl)⟩ ⟨((((nf3 j_1) - (nf4 j_1)) / (nf2 j_1)) + (nI 1)), rfl, rfl⟩ dX7_cold_79
        · skip
          refine lv_iconst (v := (-1)) hx hb dX7_cold_64 (by decide +kernel) ?_
          exact g_iret (Qr := (q_x_cold T o i n0 s0 im iz rw t0 u0 h0 y0 sv nn nm nl no nu n1 n2 n3 n4 n5 n6 n7 n8 n9 n10 nf2 nf3 nf4)) hC V ⟨(Nat.le_of_ble_eq_true rfl), (Nat.le_of_ble_eq_true rfl)⟩ ⟨(-1), rfl, rfl⟩ dX7_cold_65
    · skip
      refine lv_iconst (v := (nI 0)) hx hb dX7_cold_38 (by decide +kernel) ?_
      exact g_iret (Qr := (q_x_cold T o i n0 s0 im iz rw t0 u0 h0 y0 sv nn nm nl no nu n1 n2 n3 n4 n5 n6 n7 n8 n9 n10 nf2 nf3 nf4)) hC V ⟨(Nat.le_of_ble_eq_true rfl), (Nat.le_of_ble_eq_true rfl)⟩ ⟨(nI 0), rfl, rfl⟩ dX7_cold_39
  · have V : gW D T A s [(o, .inr (7, [.ref n0, .ref s0, .ref im, .ref iz, .ref rw, .ref t0, .ref u0, .ref h0, .ref y0, sv])), (n0, .inr (5, [.int (nI nn), .int nm, .int nl, .int no, .int nu, .ref n1, .ref n2, .ref n3, .ref n4, .ref n5, .ref n6, .ref n7, .ref n8, .ref n9, .ref n10])), (n2, .inl (T 0, 10, .inl nf2)), (n3, .inl (T 0, 10, .inl nf3)), (n4, .inl (T 0, 10, .inl nf4))] H locs := V _ [1] rfl rfl rfl (by decide +kernel) rfl
    show W p l e _ s m args below meth c H locs _ _ _ (F0 m 8 ls [.int (nI 0)])
    refine lv_if_ne (tgt := 14) hx hb dX7_cold_8 (by decide) (fun c => absurd (show (nI 0) = 0 by decide +kernel) c) (fun _ => ?_)
    refine lv_bipush (v := (-2)) hx hb dX7_cold_11 (by decide +kernel) ?_
    exact g_iret (Qr := (q_x_cold T o i n0 s0 im iz rw t0 u0 h0 y0 sv nn nm nl no nu n1 n2 n3 n4 n5 n6 n7 n8 n9 n10 nf2 nf3 nf4)) hC V ⟨(Nat.le_of_ble_eq_true rfl), (Nat.le_of_ble_eq_true rfl)⟩ ⟨(-2), rfl, rfl⟩ dX7_cold_13

/-- what numbers(row, sort, n) answers -/
def numWhy (row sort n : Int32) : Int32 := if (row < 0 ∨ nI 4 ≤ row) ∨ (sort < nI 0 ∨ nI 3 < sort) then -2 else if n < nI 0 ∨ nI 40 < n then -3 else nI 0
theorem nw_1 {row sort n : Int32} (h : row < 0 ∨ nI 4 ≤ row) : -2 = numWhy row sort n := by simp [numWhy, h]
theorem nw_2 {row sort n : Int32} (h : sort < nI 0 ∨ nI 3 < sort) : -2 = numWhy row sort n := by simp [numWhy, h]
theorem nw_3 {row sort n : Int32} (h0 : ¬ row < 0) (h1 : ¬ nI 4 ≤ row) (h2 : ¬ sort < nI 0) (h3 : ¬ nI 3 < sort) (h : n < nI 0 ∨ nI 40 < n) : -3 = numWhy row sort n := by simp only [numWhy]; simp [h0, h1, h2, h3, h]
theorem nw_4 {row sort n : Int32} (h0 : ¬ row < 0) (h1 : ¬ nI 4 ≤ row) (h2 : ¬ sort < nI 0) (h3 : ¬ nI 3 < sort) (h4 : ¬ n < nI 0) (h5 : ¬ nI 40 < n) : nI 0 = numWhy row sort n := by simp only [numWhy]; simp [h0, h1, h2, h3, h4, h5]
