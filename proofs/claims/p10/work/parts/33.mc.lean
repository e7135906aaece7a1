/-- where k ropes lead from i -/
def ledF (f : Nat → Int32) (i : Nat) : Nat → Nat
  | 0 => i
  | k + 1 => (f (84 + ledF f i k)).toNatClampNeg
theorem led_nx {f : Nat → Int32} {i k a j n : Nat} (h : a = ledF f i k ∧ a < n) (e : f (84 + a) = nI j) (hj : j < n) (hn : n ≤ 10) : j = ledF f i (k + 1) ∧ j < n := by
  refine ⟨?_, hj⟩
  show j = (f (84 + ledF f i k)).toNatClampNeg
  rw [← h.1, e, nI_clamp (by omega)]
theorem led_end {f : Nat → Int32} {i k k' a n : Nat} (h : a = ledF f i k ∧ a < n) (e : k = k') : a = ledF f i k' ∧ a < n := e ▸ h
theorem led_add (f : Nat → Int32) (i a : Nat) : ∀ b, ledF f (ledF f i a) b = ledF f i (a + b)
  | 0 => rfl
  | b + 1 => by
    show (f (84 + ledF f (ledF f i a) b)).toNatClampNeg = (f (84 + ledF f i (a + b))).toNatClampNeg
    rw [led_add f i a b]
theorem led_lt {f : Nat → Int32} {i n : Nat} (h : MI n f) (hi : i < n) : ∀ k, ledF f i k < n
  | 0 => hi
  | k + 1 => by
    obtain ⟨j, hj, e⟩ := mi_to h (led_lt h hi k)
    show (f (84 + ledF f i k)).toNatClampNeg < n
    have := h.1
    rw [e, nI_clamp (by omega)]; exact hj
/-- of n + 1 numbers below n two are the same -/
theorem pigeon : ∀ (n : Nat) (s : Nat → Nat), (∀ k, k ≤ n → s k < n) → ∃ a b, a < b ∧ b ≤ n ∧ s a = s b
  | 0, s, h => absurd (h 0 (Nat.le_refl 0)) (Nat.not_lt_zero _)
  | n + 1, s, h => by
    by_cases hc : ∃ k, k ≤ n ∧ s k = s (n + 1)
    · obtain ⟨k, hk, e⟩ := hc
      exact ⟨k, n + 1, by omega, Nat.le_refl _, e⟩
    · have hn : ∀ k, k ≤ n → s k ≠ s (n + 1) := fun k hk e => hc ⟨k, hk, e⟩
      obtain ⟨a, b, hab, hb, e⟩ := pigeon n (fun k => if s k = n then s (n + 1) else s k) (fun k hk => by
        have h1 := h k (by omega)
        have h2 := h (n + 1) (Nat.le_refl _)
        have h3 := hn k hk
        show (if s k = n then s (n + 1) else s k) < n
        split <;> omega)
      refine ⟨a, b, hab, by omega, ?_⟩
      have ha' := hn a (by omega)
      have hb' := hn b hb
      split at e <;> split at e <;> omega
theorem led_cyc {f : Nat → Int32} {i n : Nat} (h : MI n f) (hi : i < n) : ∃ m, 1 ≤ m ∧ m ≤ 10 ∧ ledF f (ledF f i 10) m = ledF f i 10 := by
  obtain ⟨a, b, hab, hb, e⟩ := pigeon n (ledF f i) (fun k _ => led_lt h hi k)
  have hn := h.1
  have hp : ∀ k, ledF f i (a + k) = ledF f i (b + k) := fun k => by rw [← led_add, ← led_add, e]
  refine ⟨b - a, by omega, by omega, ?_⟩
  rw [led_add]
  have := hp (10 - a)
  rw [show a + (10 - a) = 10 by omega, show b + (10 - a) = 10 + (b - a) by omega] at this
  exact this.symm

def q_m_led (T : Nat → ClassId) (n : Nat) (o : Nat) (i : Nat) (k : Nat) (w0 : Int32) (g1 : Nat) (g2 : Nat) (g3 : Nat) (g4 : Nat) (tp : Nat) (w6 : Int32) (w7 : Int32) (w8 : Int32) (w9 : Int32) (w10 : Int32) (w11 : Int32) (w12 : Int32) (w13 : Int32) (w14 : Int32) (g15 : Nat) (w16 : Int32) (g17 : Nat) (w18 : Int32) (w19 : Int32) (g20 : Nat) (w21 : Int32) (g22 : Nat) (g23 : Nat) (g24 : Nat) (w25 : Int32) (w26 : Int32) (w27 : Int32) (g28 : Nat) (g29 : Nat) (w30 : Int32) (g31 : Nat) (g32 : Nat) (g33 : Nat) (fa : Nat → Int32) : Option Value → va_W → Prop := fun rr ww => (∃ (r : Nat), rr = some (.int (nI r)) ∧ ww = [(o, .inr (8, [.int w0, .ref g1, .ref g2, .ref g3, .ref g4, .int (nI tp), .int w6, .int w7, .int w8, .int w9, .int w10, .int w11, .int w12, .int w13, .int w14, .ref g15, .int w16, .ref g17, .int w18, .int w19, .ref g20, .int w21, .ref g22, .ref g23, .ref g24, .int w25, .int w26, .int w27, .ref g28, .ref g29, .int w30, .ref g31, .ref g32, .ref g33])), (g1, .inl (T 0, 282, .inl fa))] ∧ (r = ledF fa i k ∧ r < n))
set_option maxHeartbeats 4000000 in
set_option maxRecDepth 100000 in
theorem m_led (l : Launch) (D : va_G) (T : Nat → ClassId) (n : Nat) (o : Nat) (i : Nat) (k : Nat) (w0 : Int32) (g1 : Nat) (g2 : Nat) (g3 : Nat) (g4 : Nat) (tp : Nat) (w6 : Int32) (w7 : Int32) (w8 : Int32) (w9 : Int32) (w10 : Int32) (w11 : Int32) (w12 : Int32) (w13 : Int32) (w14 : Int32) (g15 : Nat) (w16 : Int32) (g17 : Nat) (w18 : Int32) (w19 : Int32) (g20 : Nat) (w21 : Int32) (g22 : Nat) (g23 : Nat) (g24 : Nat) (w25 : Int32) (w26 : Int32) (w27 : Int32) (g28 : Nat) (g29 : Nat) (w30 : Int32) (g31 : Nat) (g32 : Nat) (g33 : Nat) (fa : Nat → Int32) (h_a : MI n fa) (h_i : i < n) (h_k : k ≤ 1000) : Ct l yX8_led cX8_led 5 (some .int) 0 0 0 D T [.ref o, .int (nI i), .int (nI k)] [(o, .inr (8, [.int w0, .ref g1, .ref g2, .ref g3, .ref g4, .int (nI tp), .int w6, .int w7, .int w8, .int w9, .int w10, .int w11, .int w12, .int w13, .int w14, .ref g15, .int w16, .ref g17, .int w18, .int w19, .ref g20, .int w21, .ref g22, .ref g23, .ref g24, .int w25, .int w26, .int w27, .ref g28, .ref g29, .int w30, .ref g31, .ref g32, .ref g33])), (g1, .inl (T 0, 282, .inl fa))] (q_m_led T n o i k w0 g1 g2 g3 g4 tp w6 w7 w8 w9 w10 w11 w12 w13 w14 g15 w16 g17 w18 w19 g20 w21 g22 g23 g24 w25 w26 w27 g28 g29 w30 g31 g32 g33 fa) := by
  refine Ct.of (cc := cX8_led) (maxL := 5) (ret := (some .int)) (by decide) (Nat.le_of_ble_eq_true rfl) ?_
  intro p e s m args below meth c A ls hC hnm V hl
  obtain ⟨hx, hb, hr, hml, hown, hts, hlocks⟩ := id hC
  generalize hH : s.heap = H at V ⊢
  clear hH
  have hl : lv_has ls 5 [(0, .ref o), (1, .int (nI i)), (2, .int (nI k))] := hl
  generalize hlo : ([] : List Loc) = locs at V ⊢
  clear hlo
  have ms0 := ms_rf h_a
  have hn10 := h_a.1
  refine lv_iload_n hx hb dX8_led_0 rfl (lv_at hl 1 rfl) ?_
  refine lv_istore_n (lv' := [(3, .int (nI i)), (0, .ref o), (1, .int (nI i)), (2, .int (nI k))]) hx hb dX8_led_1 rfl hl (by decide) rfl (fun ls hl => ?_)
  refine lv_iconst (v := (nI 0)) hx hb dX8_led_2 (by decide +kernel) ?_
  refine lv_istore (lv' := [(4, .int (nI 0)), (3, .int (nI i)), (0, .ref o), (1, .int (nI i)), (2, .int (nI k))]) hx hb dX8_led_3 hl (by decide) rfl (fun ls hl => ?_)
  have L_1 : ∀ (fu : Nat) (k5 : Nat) (at_ : Nat), k5 ≤ k → (at_ = ledF fa i k5 ∧ at_ < n) → k - k5 < fu → ∀ (H : Heap) (locs : List Loc) (ls : Array Slot), gW D T A s [(o, .inr (8, [.int w0, .ref g1, .ref g2, .ref g3, .ref g4, .int (nI tp), .int w6, .int w7, .int w8, .int w9, .int w10, .int w11, .int w12, .int w13, .int w14, .ref g15, .int w16, .ref g17, .int w18, .int w19, .ref g20, .int w21, .ref g22, .ref g23, .ref g24, .int w25, .int w26, .int w27, .ref g28, .ref g29, .int w30, .ref g31, .ref g32, .ref g33])), (g1, .inl (T 0, 282, .inl fa))] H locs → lv_has ls 5 [(4, .int (nI k5)), (3, .int (nI at_)), (0, .ref o), (1, .int (nI i)), (2, .int (nI k))] → W p l e (rmD 0 0 0) s m args below meth c H locs 0 0 (MQ below (gQ D A (q_m_led T n o i k w0 g1 g2 g3 g4 tp w6 w7 w8 w9 w10 w11 w12 w13 w14 g15 w16 g17 w18 w19 g20 w21 g22 g23 g24 w25 w26 w27 g28 g29 w30 g31 g32 g33 fa)) args s 0 0 A) (F0 m 5 ls []) := by
    intro fu_5
    induction fu_5 with
    | zero => intro k5 at_ hk5 hat hmu; exact absurd hmu (Nat.not_lt_zero _)
    | succ fu_5 ih_5 =>
      intro k5 at_ hk5 hat hmu_5 H locs ls V hl
      refine lv_iload hx hb dX8_led_5 (lv_at hl 0 rfl) ?_
      refine lv_iload_n hx hb dX8_led_7 rfl (lv_at hl 4 rfl) ?_
      refine lv_icmp_ge (tgt := 27) hx hb dX8_led_8 (by decide) (fun c_2 => ?_) (fun c_2 => ?_)
      · skip
        have c_2 := b_le (by omega) (by omega) c_2
        refine lv_iload_n hx hb dX8_led_27 rfl (lv_at hl 1 rfl) ?_
        exact g_iret (Qr := (q_m_led T n o i k w0 g1 g2 g3 g4 tp w6 w7 w8 w9 w10 w11 w12 w13 w14 g15 w16 g17 w18 w19 g20 w21 g22 g23 g24 w25 w26 w27 g28 g29 w30 g31 g32 g33 fa)) hC V ⟨(Nat.le_of_ble_eq_true rfl), (Nat.le_of_ble_eq_true rfl)⟩ ⟨at_, rfl, rfl, (led_end hat (by omega))⟩ dX8_led_28
      · skip
        have c_2 := b_nle (by omega) (by omega) c_2
        refine lv_aload_n hx hb dX8_led_11 rfl (lv_at hl 2 rfl) ?_
        refine g_get hC V (ci := 8) uwX8 0 rfl rfl 1 (by decide) w_913 rfl rfl dX8_led_12 ?_
        refine lv_bipush (v := (nI 84)) hx hb dX8_led_15 (by decide +kernel) ?_
        refine lv_iload_n hx hb dX8_led_17 rfl (lv_at hl 1 rfl) ?_
        refine lv_iadd hx hb dX8_led_18 ?_
        refine g_vi (y := (nI (84 + at_))) (nI_add _ _) ?_
        obtain ⟨j_3, hj_3, ej_3⟩ := bd_ex (mi_to h_a (i := at_) (by omega))
        refine g_iald hC V 1 rfl (vp_in_nI (by omega) (by omega)) (v := (nI j_3)) (by rw [nI_clamp (by omega)]; exact ej_3) dX8_led_19 ?_
        refine lv_istore_n (lv' := [(3, .int (nI j_3)), (4, .int (nI k5)), (0, .ref o), (1, .int (nI i)), (2, .int (nI k))]) hx hb dX8_led_20 rfl hl (by decide) rfl (fun ls hl => ?_)
        refine lv_iinc (v := (nI (k5 + 1))) (lv' := [(4, .int (nI (k5 + 1))), (3, .int (nI j_3)), (0, .ref o), (1, .int (nI i)), (2, .int (nI k))]) hx hb dX8_led_21 hl (k := 1) rfl (nI_1 _) (by decide) rfl (fun ls hl => ?_)
        refine lv_goto (tgt := 5) hx hb dX8_led_24 (by decide) ?_
        exact ih_5 (k5 + 1) j_3 (by omega) (led_nx hat (by assumption) (by omega) (by omega)) (by omega) _ _ _ V (lv_sub hl [0, 1, 2, 3, 4] rfl)
  exact L_1 _ 0 i (by omega) ⟨rfl, h_i⟩ (Nat.lt_succ_self _) _ _ _ V (lv_sub hl [0, 1, 2, 3, 4] rfl)

theorem led_go {f : Nat → Int32} {i m k r F : Nat} (hF : F = ledF f i 10) (hm : ledF f (ledF f i 10) m = ledF f i 10) (hr : r = ledF f F k) (hne : r ≠ F) (hk : k ≤ m) : k + 1 ≤ m := by
  have : k ≠ m := by
    rintro rfl
    apply hne
    rw [hr, hF, hm]
  omega
