def q_e_meet (T : Nat → ClassId) (e0 : Nat) (v : Int64) (e1 : Nat) (e2 : Nat) (em : Nat) (e3 : Nat) (e4 : Nat) (e5 : Nat) (e6 : Nat) (ea : Nat → Int64) (eb : Nat → Int32) : Option Value → va_W → Prop := fun rr ww => (∃ (em2 : Nat) (g1 : Nat → Int64) (g2 : Nat → Int32), rr = none ∧ ww = [(e0, .inr (4, [.ref e1, .ref e2, .int (nI em2), .ref e3, .ref e4, .ref e5, .ref e6])), (e1, .inl (T 1, 3001, .inr (.inl g1))), (e2, .inl (T 0, 8192, .inl g2))] ∧ em ≤ em2 ∧ em2 ≤ 3001 ∧ (∀ i, i < 8192 → bd (g2 i) (em2 + 1)))
set_option maxHeartbeats 4000000 in
set_option maxRecDepth 100000 in
theorem e_meet (l : Launch) (D : va_G) (T : Nat → ClassId) (e0 : Nat) (v : Int64) (e1 : Nat) (e2 : Nat) (em : Nat) (e3 : Nat) (e4 : Nat) (e5 : Nat) (e6 : Nat) (ea : Nat → Int64) (eb : Nat → Int32) (h_m : em ≤ 3001) (h_sl : ∀ i, i < 8192 → bd (eb i) (em + 1)) : Ct l yX4_meet cX4_meet 5 none 0 0 0 D T [.ref e0, .long v] [(e0, .inr (4, [.ref e1, .ref e2, .int (nI em), .ref e3, .ref e4, .ref e5, .ref e6])), (e1, .inl (T 1, 3001, .inr (.inl ea))), (e2, .inl (T 0, 8192, .inl eb))] (q_e_meet T e0 v e1 e2 em e3 e4 e5 e6 ea eb) := by
  refine Ct.of (cc := cX4_meet) (maxL := 5) (ret := none) (by decide) (Nat.le_of_ble_eq_true rfl) ?_
  intro p e s m args below meth c A ls hC hnm V hl
  obtain ⟨hx, hb, hr, hml, hown, hts, hlocks⟩ := id hC
  generalize hH : s.heap = H at V ⊢
  clear hH
  have hl : lv_has ls 5 [(0, .ref e0), (1, .long v)] := hl
  generalize hlo : ([] : List Loc) = locs at V ⊢
  clear hlo
  refine lv_lload_n hx hb dX4_meet_0 rfl (lv_at hl 1 rfl) ?_
  refine lv_ldc2 (v := (-7046029254386353131)) hx hb hown (hts _ w_758) dX4_meet_1 ?_
  refine lv_lmul hx hb dX4_meet_4 ?_
  refine lv_bipush (v := (nI 51)) hx hb dX4_meet_5 (by decide +kernel) ?_
  refine lv_lushr hx hb dX4_meet_7 rfl ?_
  refine lv_l2i hx hb dX4_meet_8 rfl ?_
  obtain ⟨jh, hjh, ejh⟩ := hash_bd (v * (-7046029254386353131))
  refine g_vi (y := nI jh) ejh ?_
  refine lv_istore_n (lv' := [(3, .int (nI jh)), (0, .ref e0), (1, .long v)]) hx hb dX4_meet_9 rfl hl (by decide) rfl (fun ls hl => ?_)
  refine lv_iconst (v := (nI 0)) hx hb dX4_meet_10 (by decide +kernel) ?_
  refine lv_istore (lv' := [(4, .int (nI 0)), (3, .int (nI jh)), (0, .ref e0), (1, .long v)]) hx hb dX4_meet_11 hl (by decide) rfl (fun ls hl => ?_)
  have L_1 : ∀ (fu : Nat) (k13 : Nat) (sl : Nat), k13 ≤ 8192 → sl < 8192 → 8192 - k13 < fu → ∀ (H : Heap) (locs : List Loc) (ls : Array Slot), gW D T A s [(e0, .inr (4, [.ref e1, .ref e2, .int (nI em), .ref e3, .ref e4, .ref e5, .ref e6])), (e1, .inl (T 1, 3001, .inr (.inl ea))), (e2, .inl (T 0, 8192, .inl eb))] H locs → lv_has ls 5 [(4, .int (nI k13)), (3, .int (nI sl)), (0, .ref e0), (1, .long v)] → W p l e (rmD 0 0 0) s m args below meth c H locs 0 0 (MQ below (gQ D A (q_e_meet T e0 v e1 e2 em e3 e4 e5 e6 ea eb)) args s 0 0 A) (F0 m 13 ls []) := by
    intro fu_13
    induction fu_13 with
    | zero => intro k13 sl hk13 hsl hmu; exact absurd hmu (Nat.not_lt_zero _)
    | succ fu_13 ih_13 =>
      intro k13 sl hk13 hsl hmu_13 H locs ls V hl
      refine lv_iload hx hb dX4_meet_13 (lv_at hl 0 rfl) ?_
      refine lv_sipush (v := (nI 8192)) hx hb dX4_meet_15 (by decide +kernel) ?_
      refine lv_icmp_ge (tgt := 72) hx hb dX4_meet_18 (by decide) (fun c_2 => ?_) (fun c_2 => ?_)
      · skip
        have c_2 := b_le (by omega) (by omega) c_2
        refine lv_aload_n hx hb dX4_meet_72 rfl (lv_at hl 2 rfl) ?_
        refine g_get hC V (ci := 4) uwX4 0 rfl rfl 2 (by decide) w_715 rfl rfl dX4_meet_73 ?_
        refine lv_sipush (v := (nI 3000)) hx hb dX4_meet_76 (by decide +kernel) ?_
        refine lv_icmp_gt (tgt := 112) hx hb dX4_meet_79 (by decide) (fun c_3 => ?_) (fun c_3 => ?_)
        · skip
          have c_3 := b_lt (by omega) (by omega) c_3
          exact g_vret (Qr := (q_e_meet T e0 v e1 e2 em e3 e4 e5 e6 ea eb)) hC V ⟨(Nat.le_of_ble_eq_true rfl), (Nat.le_of_ble_eq_true rfl)⟩ ⟨em, ea, eb, rfl, rfl, (by omega), (by omega), h_sl⟩ dX4_meet_112
        · skip
          have c_3 := b_nlt (by omega) (by omega) c_3
          refine lv_aload_n hx hb dX4_meet_82 rfl (lv_at hl 2 rfl) ?_
          refine g_get hC V (ci := 4) uwX4 0 rfl rfl 0 (by decide) w_713 rfl rfl dX4_meet_83 ?_
          refine lv_aload_n hx hb dX4_meet_86 rfl (lv_at hl 2 rfl) ?_
          refine g_get hC V (ci := 4) uwX4 0 rfl rfl 2 (by decide) w_715 rfl rfl dX4_meet_87 ?_
          refine lv_lload_n hx hb dX4_meet_90 rfl (lv_at hl 3 rfl) ?_
          refine g_last hC V 1 rfl (vp_in_nI (by omega) (by omega)) (f' := (vp_updL ea em v)) (by rw [nI_clamp (by omega)]) (ws' := [(e0, .inr (4, [.ref e1, .ref e2, .int (nI em), .ref e3, .ref e4, .ref e5, .ref e6])), (e1, .inl (T 1, 3001, .inr (.inl (vp_updL ea em v)))), (e2, .inl (T 0, 8192, .inl eb))]) rfl dX4_meet_91 (fun H locs V => ?_)
          refine lv_aload_n hx hb dX4_meet_92 rfl (lv_at hl 2 rfl) ?_
          refine lv_dup hx hb dX4_meet_93 rfl ?_
          refine g_get hC V (ci := 4) uwX4 0 rfl rfl 2 (by decide) w_715 rfl rfl dX4_meet_94 ?_
          refine lv_iconst (v := (nI 1)) hx hb dX4_meet_97 (by decide +kernel) ?_
          refine lv_iadd hx hb dX4_meet_98 ?_
          refine g_vi (y := (nI (em + 1))) (nI_add _ _) ?_
          refine g_put hC V (ci := 4) uwX4 tyX4 tyX4_ok nmX4 0 rfl rfl 2 (by decide) w_715 rfl rfl rfl rfl (Nat.le_of_ble_eq_true rfl) (ws' := [(e0, .inr (4, [.ref e1, .ref e2, .int (nI (em + 1)), .ref e3, .ref e4, .ref e5, .ref e6])), (e1, .inl (T 1, 3001, .inr (.inl (vp_updL ea em v)))), (e2, .inl (T 0, 8192, .inl eb))]) rfl dX4_meet_99 (fun H locs V => ?_)
          refine lv_aload_n hx hb dX4_meet_102 rfl (lv_at hl 2 rfl) ?_
          refine g_get hC V (ci := 4) uwX4 0 rfl rfl 1 (by decide) w_714 rfl rfl dX4_meet_103 ?_
          refine lv_iload_n hx hb dX4_meet_106 rfl (lv_at hl 1 rfl) ?_
          refine lv_aload_n hx hb dX4_meet_107 rfl (lv_at hl 2 rfl) ?_
          refine g_get hC V (ci := 4) uwX4 0 rfl rfl 2 (by decide) w_715 rfl rfl dX4_meet_108 ?_
          refine g_iast hC V 2 rfl (vp_in_nI (by omega) (by omega)) (f' := (upd eb sl (nI (em + 1)))) (by rw [nI_clamp (by omega)]) (ws' := [(e0, .inr (4, [.ref e1, .ref e2, .int (nI (em + 1)), .ref e3, .ref e4, .ref e5, .ref e6])), (e1, .inl (T 1, 3001, .inr (.inl (vp_updL ea em v)))), (e2, .inl (T 0, 8192, .inl (upd eb sl (nI (em + 1)))))]) rfl dX4_meet_111 (fun H locs V => ?_)
          exact g_vret (Qr := (q_e_meet T e0 v e1 e2 em e3 e4 e5 e6 ea eb)) hC V ⟨(Nat.le_of_ble_eq_true rfl), (Nat.le_of_ble_eq_true rfl)⟩ ⟨(em + 1), (vp_updL ea em v), (upd eb sl (nI (em + 1))), rfl, rfl, (by omega), (by omega), (up_all (p := fun x => bd x (em + 1 + 1)) (fun i h => bd_le (h_sl i h) (by omega)) (fun _ => bd_nI (by omega)))⟩ dX4_meet_112
      · skip
        have c_2 := b_nle (by omega) (by omega) c_2
        refine lv_aload_n hx hb dX4_meet_21 rfl (lv_at hl 2 rfl) ?_
        refine g_get hC V (ci := 4) uwX4 0 rfl rfl 1 (by decide) w_714 rfl rfl dX4_meet_22 ?_
        refine lv_iload_n hx hb dX4_meet_25 rfl (lv_at hl 1 rfl) ?_
        obtain ⟨j_4, hj_4, ej_4⟩ := bd_ex (h_sl sl (by omega))
        refine g_iald hC V 2 rfl (vp_in_nI (by omega) (by omega)) (v := (nI j_4)) (by rw [nI_clamp (by omega)]; exact ej_4) dX4_meet_26 ?_
        refine lv_if_eq (tgt := 72) hx hb dX4_meet_27 (by decide) (fun c_5 => ?_) (fun c_5 => ?_)
        · skip
          rw [show (0 : Int32) = nI 0 from rfl] at c_5
          have c_5 := b_eq (by omega) (by omega) c_5
          refine lv_aload_n hx hb dX4_meet_72 rfl (lv_at hl 2 rfl) ?_
          refine g_get hC V (ci := 4) uwX4 0 rfl rfl 2 (by decide) w_715 rfl rfl dX4_meet_73 ?_
          refine lv_sipush (v := (nI 3000)) hx hb dX4_meet_76 (by decide +kernel) ?_
          refine lv_icmp_gt (tgt := 112) hx hb dX4_meet_79 (by decide) (fun c_6 => ?_) (fun c_6 => ?_)
          · skip
            have c_6 := b_lt (by omega) (by omega) c_6
            exact g_vret (Qr := (q_e_meet T e0 v e1 e2 em e3 e4 e5 e6 ea eb)) hC V ⟨(Nat.le_of_ble_eq_true rfl), (Nat.le_of_ble_eq_true rfl)⟩ ⟨em, ea, eb, rfl, rfl, (by omega), (by omega), h_sl⟩ dX4_meet_112
          · skip
            have c_6 := b_nlt (by omega) (by omega) c_6
            refine lv_aload_n hx hb dX4_meet_82 rfl (lv_at hl 2 rfl) ?_
            refine g_get hC V (ci := 4) uwX4 0 rfl rfl 0 (by decide) w_713 rfl rfl dX4_meet_83 ?_
            refine lv_aload_n hx hb dX4_meet_86 rfl (lv_at hl 2 rfl) ?_
            refine g_get hC V (ci := 4) uwX4 0 rfl rfl 2 (by decide) w_715 rfl rfl dX4_meet_87 ?_
            refine lv_lload_n hx hb dX4_meet_90 rfl (lv_at hl 3 rfl) ?_
            refine g_last hC V 1 rfl (vp_in_nI (by omega) (by omega)) (f' := (vp_updL ea em v)) (by rw [nI_clamp (by omega)]) (ws' := [(e0, .inr (4, [.ref e1, .ref e2, .int (nI em), .ref e3, .ref e4, .ref e5, .ref e6])), (e1, .inl (T 1, 3001, .inr (.inl (vp_updL ea em v)))), (e2, .inl (T 0, 8192, .inl eb))]) rfl dX4_meet_91 (fun H locs V => ?_)
            refine lv_aload_n hx hb dX4_meet_92 rfl (lv_at hl 2 rfl) ?_
            refine lv_dup hx hb dX4_meet_93 rfl ?_
            refine g_get hC V (ci := 4) uwX4 0 rfl rfl 2 (by decide) w_715 rfl rfl dX4_meet_94 ?_
            refine lv_iconst (v := (nI 1)) hx hb dX4_meet_97 (by decide +kernel) ?_
            refine lv_iadd hx hb dX4_meet_98 ?_
            refine g_vi (y := (nI (em + 1))) (nI_add _ _) ?_
            refine g_put hC V (ci := 4) uwX4 tyX4 tyX4_ok nmX4 0 rfl rfl 2 (by decide) w_715 rfl rfl rfl rfl (Nat.le_of_ble_eq_true rfl) (ws' := [(e0, .inr (4, [.ref e1, .ref e2, .int (nI (em + 1)), .ref e3, .ref e4, .ref e5, .ref e6])), (e1, .inl (T 1, 3001, .inr (.inl (vp_updL ea em v)))), (e2, .inl (T 0, 8192, .inl eb))]) rfl dX4_meet_99 (fun H locs V => ?_)
            refine lv_aload_n hx hb dX4_meet_102 rfl (lv_at hl 2 rfl) ?_
            refine g_get hC V (ci := 4) uwX4 0 rfl rfl 1 (by decide) w_714 rfl rfl dX4_meet_103 ?_
            refine lv_iload_n hx hb dX4_meet_106 rfl (lv_at hl 1 rfl) ?_
            refine lv_aload_n hx hb dX4_meet_107 rfl (lv_at hl 2 rfl) ?_
            refine g_get hC V (ci := 4) uwX4 0 rfl rfl 2 (by decide) w_715 rfl rfl dX4_meet_108 ?_
            refine g_iast hC V 2 rfl (vp_in_nI (by omega) (by omega)) (f' := (upd eb sl (nI (em + 1)))) (by rw [nI_clamp (by omega)]) (ws' := [(e0, .inr (4, [.ref e1, .ref e2, .int (nI (em + 1)), .ref e3, .ref e4, .ref e5, .ref e6])), (e1, .inl (T 1, 3001, .inr (.inl (vp_updL ea em v)))), (e2, .inl (T 0, 8192, .inl (upd eb sl (nI (em + 1)))))]) rfl dX4_meet_111 (fun H locs V => ?_)
            exact g_vret (Qr := (q_e_meet T e0 v e1 e2 em e3 e4 e5 e6 ea eb)) hC V ⟨(Nat.le_of_ble_eq_true rfl), (Nat.le_of_ble_eq_true rfl)⟩ ⟨(em + 1), (vp_updL ea em v), (upd eb sl (nI (em + 1))), rfl, rfl, (by omega), (by omega), (up_all (p := fun x => bd x (em + 1 + 1)) (fun i h => bd_le (h_sl i h) (by omega)) (fun _ => bd_nI (by omega)))⟩ dX4_meet_112
        · skip
          rw [show (0 : Int32) = nI 0 from rfl] at c_5
          have c_5 := b_ne (by omega) (by omega) c_5
          refine lv_aload_n hx hb dX4_meet_30 rfl (lv_at hl 2 rfl) ?_
          refine g_get hC V (ci := 4) uwX4 0 rfl rfl 0 (by decide) w_713 rfl rfl dX4_meet_31 ?_
          refine lv_aload_n hx hb dX4_meet_34 rfl (lv_at hl 2 rfl) ?_
          refine g_get hC V (ci := 4) uwX4 0 rfl rfl 1 (by decide) w_714 rfl rfl dX4_meet_35 ?_
          refine lv_iload_n hx hb dX4_meet_38 rfl (lv_at hl 1 rfl) ?_
          refine g_iald hC V 2 rfl (vp_in_nI (by omega) (by omega)) (v := (nI j_4)) (by rw [nI_clamp (by omega)]; exact ej_4) dX4_meet_39 ?_
          refine lv_iconst (v := (nI 1)) hx hb dX4_meet_40 (by decide +kernel) ?_
          refine lv_isub hx hb dX4_meet_41 ?_
          refine g_vi (y := (nI (j_4 - 1))) (nI_sub (by omega)) ?_
          refine g_lald hC V 1 rfl (vp_in_nI (by omega) (by omega)) (v := (ea (j_4 - 1))) (congrArg _ (nI_clamp (by omega))) dX4_meet_42 ?_
          refine lv_lload_n hx hb dX4_meet_43 rfl (lv_at hl 3 rfl) ?_
          refine W.lcmp hx hb dX4_meet_44 ?_
          refine lv_if_ne (tgt := 49) hx hb dX4_meet_45 (by decide) (fun c_7 => ?_) (fun c_7 => ?_)
          · skip
            refine lv_iload_n hx hb dX4_meet_49 rfl (lv_at hl 1 rfl) ?_
            refine lv_iconst (v := (nI 1)) hx hb dX4_meet_50 (by decide +kernel) ?_
            refine lv_iadd hx hb dX4_meet_51 ?_
            refine g_vi (y := (nI (sl + 1))) (nI_add _ _) ?_
            refine lv_sipush (v := (nI 8192)) hx hb dX4_meet_52 (by decide +kernel) ?_
            refine lv_icmp_ge (tgt := 64) hx hb dX4_meet_55 (by decide) (fun c_8 => ?_) (fun c_8 => ?_)
            · skip
              have c_8 := b_le (by omega) (by omega) c_8
              refine lv_iconst (v := (nI 0)) hx hb dX4_meet_64 (by decide +kernel) ?_
              refine lv_istore_n (lv' := [(3, .int (nI 0)), (4, .int (nI k13)), (0, .ref e0), (1, .long v)]) hx hb dX4_meet_65 rfl hl (by decide) rfl (fun ls hl => ?_)
              refine lv_iinc (v := (nI (k13 + 1))) (lv' := [(4, .int (nI (k13 + 1))), (3, .int (nI 0)), (0, .ref e0), (1, .long v)]) hx hb dX4_meet_66 hl (k := 1) rfl (nI_1 _) (by decide) rfl (fun ls hl => ?_)
              refine lv_goto (tgt := 13) hx hb dX4_meet_69 (by decide) ?_
              exact ih_13 (k13 + 1) 0 (by omega) (by omega) (by omega) _ _ _ V (lv_sub hl [0, 1, 2, 3] rfl)
            · skip
              have c_8 := b_nle (by omega) (by omega) c_8
              refine lv_iload_n hx hb dX4_meet_58 rfl (lv_at hl 1 rfl) ?_
              refine lv_iconst (v := (nI 1)) hx hb dX4_meet_59 (by decide +kernel) ?_
              refine lv_iadd hx hb dX4_meet_60 ?_
              refine g_vi (y := (nI (sl + 1))) (nI_add _ _) ?_
              refine lv_goto (tgt := 65) hx hb dX4_meet_61 (by decide) ?_
              refine lv_istore_n (lv' := [(3, .int (nI (sl + 1))), (4, .int (nI k13)), (0, .ref e0), (1, .long v)]) hx hb dX4_meet_65 rfl hl (by decide) rfl (fun ls hl => ?_)
              refine lv_iinc (v := (nI (k13 + 1))) (lv' := [(4, .int (nI (k13 + 1))), (3, .int (nI (sl + 1))), (0, .ref e0), (1, .long v)]) hx hb dX4_meet_66 hl (k := 1) rfl (nI_1 _) (by decide) rfl (fun ls hl => ?_)
              refine lv_goto (tgt := 13) hx hb dX4_meet_69 (by decide) ?_
              exact ih_13 (k13 + 1) (sl + 1) (by omega) (by omega) (by omega) _ _ _ V (lv_sub hl [0, 1, 2, 3] rfl)
          · skip
            exact g_vret (Qr := (q_e_meet T e0 v e1 e2 em e3 e4 e5 e6 ea eb)) hC V ⟨(Nat.le_of_ble_eq_true rfl), (Nat.le_of_ble_eq_true rfl)⟩ ⟨em, ea, eb, rfl, rfl, (by omega), (by omega), h_sl⟩ dX4_meet_48
  exact L_1 _ 0 jh (by omega) hjh (Nat.lt_succ_self _) _ _ _ V (lv_sub hl [0, 1, 2, 3] rfl)

def q_e_weigh (T : Nat → ClassId) (e0 : Nat) (a0 : Nat) (e1 : Nat) (e2 : Nat) (em : Nat) (e3 : Nat) (e4 : Nat) (e5 : Nat) (e6 : Nat) (ef : Nat → Int32) (an : Nat) (am : Int32) (al : Int32) (ao : Int32) (au : Int32) (a1 : Nat) (a2 : Nat) (a3 : Nat) (a4 : Nat) (a5 : Nat) (a6 : Nat) (a7 : Nat) (a8 : Nat) (a9 : Nat) (a10 : Nat) (af1 : Nat → Int32) (af2 : Nat → Int32) (af9 : Nat → Int32) : Option Value → va_W → Prop := fun rr ww => (∃ (g : Nat → Int32), rr = none ∧ ww = [(e0, .inr (4, [.ref e1, .ref e2, .int (nI em), .ref e3, .ref e4, .ref e5, .ref e6])), (e6, .inl (T 0, 24, .inl g)), (a0, .inr (5, [.int (nI an), .int am, .int al, .int ao, .int au, .ref a1, .ref a2, .ref a3, .ref a4, .ref a5, .ref a6, .ref a7, .ref a8, .ref a9, .ref a10])), (a1, .inl (T 0, 10, .inl af1)), (a2, .inl (T 0, 10, .inl af2)), (a9, .inl (T 0, 10, .inl af9))])
set_option maxHeartbeats 4000000 in
set_option maxRecDepth 100000 in
theorem e_weigh (l : Launch) (D : va_G) (T : Nat → ClassId) (e0 : Nat) (a0 : Nat) (e1 : Nat) (e2 : Nat) (em : Nat) (e3 : Nat) (e4 : Nat) (e5 : Nat) (e6 : Nat) (ef : Nat → Int32) (an : Nat) (am : Int32) (al : Int32) (ao : Int32) (au : Int32) (a1 : Nat) (a2 : Nat) (a3 : Nat) (a4 : Nat) (a5 : Nat) (a6 : Nat) (a7 : Nat) (a8 : Nat) (a9 : Nat) (a10 : Nat) (af1 : Nat → Int32) (af2 : Nat → Int32) (af9 : Nat → Int32) (h_n : an ≤ 3) : Ct l yX4_weighChanges cX4_weighChanges 4 none 2 0 0 D T [.ref e0, .ref a0] [(e0, .inr (4, [.ref e1, .ref e2, .int (nI em), .ref e3, .ref e4, .ref e5, .ref e6])), (e6, .inl (T 0, 24, .inl ef)), (a0, .inr (5, [.int (nI an), .int am, .int al, .int ao, .int au, .ref a1, .ref a2, .ref a3, .ref a4, .ref a5, .ref a6, .ref a7, .ref a8, .ref a9, .ref a10])), (a1, .inl (T 0, 10, .inl af1)), (a2, .inl (T 0, 10, .inl af2)), (a9, .inl (T 0, 10, .inl af9))] (q_e_weigh T e0 a0 e1 e2 em e3 e4 e5 e6 ef an am al ao au a1 a2 a3 a4 a5 a6 a7 a8 a9 a10 af1 af2 af9) := by
  refine Ct.of (cc := cX4_weighChanges) (maxL := 4) (ret := none) (by decide) (Nat.le_of_ble_eq_true rfl) ?_
  intro p e s m args below meth c A ls hC hnm V hl
  obtain ⟨hx, hb, hr, hml, hown, hts, hlocks⟩ := id hC
  generalize hH : s.heap = H at V ⊢
  clear hH
  have hl : lv_has ls 4 [(0, .ref e0), (1, .ref a0)] := hl
  generalize hlo : ([] : List Loc) = locs at V ⊢
  clear hlo
  have hpw := pw3 h_n
  refine lv_iconst (v := (nI 0)) hx hb dX4_weighChanges_0 (by decide +kernel) ?_
  refine lv_istore_n (lv' := [(2, .int (nI 0)), (0, .ref e0), (1, .ref a0)]) hx hb dX4_weighChanges_1 rfl hl (by decide) rfl (fun ls hl => ?_)
  have L_1 : ∀ (fu : Nat) (k2 : Nat) (ga : Nat → Int32), k2 ≤ 2 ^ an → 2 ^ an - k2 < fu → ∀ (H : Heap) (locs : List Loc) (ls : Array Slot), gW D T A s [(e0, .inr (4, [.ref e1, .ref e2, .int (nI em), .ref e3, .ref e4, .ref e5, .ref e6])), (e6, .inl (T 0, 24, .inl ga)), (a0, .inr (5, [.int (nI an), .int am, .int al, .int ao, .int au, .ref a1, .ref a2, .ref a3, .ref a4, .ref a5, .ref a6, .ref a7, .ref a8, .ref a9, .ref a10])), (a1, .inl (T 0, 10, .inl af1)), (a2, .inl (T 0, 10, .inl af2)), (a9, .inl (T 0, 10, .inl af9))] H locs → lv_has ls 4 [(2, .int (nI k2)), (0, .ref e0), (1, .ref a0)] → W p l e (rmD 2 0 0) s m args below meth c H locs 0 0 (MQ below (gQ D A (q_e_weigh T e0 a0 e1 e2 em e3 e4 e5 e6 ef an am al ao au a1 a2 a3 a4 a5 a6 a7 a8 a9 a10 af1 af2 af9)) args s 0 0 A) (F0 m 2 ls []) := by
    intro fu_2
    induction fu_2 with
    | zero => intro k2 ga hk2 hmu; exact absurd hmu (Nat.not_lt_zero _)
    | succ fu_2 ih_2 =>
      intro k2 ga hk2 hmu_2 H locs ls V hl
      refine lv_iload_n hx hb dX4_weighChanges_2 rfl (lv_at hl 0 rfl) ?_
      refine lv_aload_n hx hb dX4_weighChanges_3 rfl (lv_at hl 2 rfl) ?_
      refine g_callVU (nA := 0) hC V hl.1 (s_everyone l D T a0 an am al ao au a1 a2 a3 a4 a5 a6 a7 a8 a9 a10 (by first | assumption | omega)) w_744 w_463 w_464 w_3 w_465 (by decide +kernel) rfl ⟨(Nat.le_of_ble_eq_true rfl), (Nat.le_of_ble_eq_true rfl)⟩ 2 (ci := 5) rfl rfl [2] rfl rfl (Nat.le_of_ble_eq_true rfl) dX4_weighChanges_4 ⟨(Nat.le_of_ble_eq_true rfl), (Nat.le_of_ble_eq_true rfl)⟩ rfl (fun r w1 H locs hQ V => ?_)
      obtain ⟨rfl, rfl⟩ := hQ
      have V : gW D T A s [(e0, .inr (4, [.ref e1, .ref e2, .int (nI em), .ref e3, .ref e4, .ref e5, .ref e6])), (e6, .inl (T 0, 24, .inl ga)), (a0, .inr (5, [.int (nI an), .int am, .int al, .int ao, .int au, .ref a1, .ref a2, .ref a3, .ref a4, .ref a5, .ref a6, .ref a7, .ref a8, .ref a9, .ref a10])), (a1, .inl (T 0, 10, .inl af1)), (a2, .inl (T 0, 10, .inl af2)), (a9, .inl (T 0, 10, .inl af9))] H locs := V _ [2] rfl rfl rfl (by decide +kernel) rfl
      show W p l e _ s m args below meth c H locs _ _ _ (F0 m 7 ls [.int (nI (2 ^ an - 1)), .int (nI k2)])
      refine lv_icmp_gt (tgt := 55) hx hb dX4_weighChanges_7 (by decide) (fun c_2 => ?_) (fun c_2 => ?_)
      · skip
        have c_2 := b_lt (by omega) (by omega) c_2
        exact g_vret (Qr := (q_e_weigh T e0 a0 e1 e2 em e3 e4 e5 e6 ef an am al ao au a1 a2 a3 a4 a5 a6 a7 a8 a9 a10 af1 af2 af9)) hC V ⟨(Nat.le_of_ble_eq_true rfl), (Nat.le_of_ble_eq_true rfl)⟩ ⟨ga, rfl, rfl⟩ dX4_weighChanges_55
      · skip
        have c_2 := b_nlt (by omega) (by omega) c_2
        refine lv_iconst (v := (nI 0)) hx hb dX4_weighChanges_10 (by decide +kernel) ?_
        refine lv_istore_n (lv' := [(3, .int (nI 0)), (2, .int (nI k2)), (0, .ref e0), (1, .ref a0)]) hx hb dX4_weighChanges_11 rfl hl (by decide) rfl (fun ls hl => ?_)
        have L_3 : ∀ (fu : Nat) (k12 : Nat) (gb : Nat → Int32), k12 ≤ an → an - k12 < fu → ∀ (H : Heap) (locs : List Loc) (ls : Array Slot), gW D T A s [(e0, .inr (4, [.ref e1, .ref e2, .int (nI em), .ref e3, .ref e4, .ref e5, .ref e6])), (e6, .inl (T 0, 24, .inl gb)), (a0, .inr (5, [.int (nI an), .int am, .int al, .int ao, .int au, .ref a1, .ref a2, .ref a3, .ref a4, .ref a5, .ref a6, .ref a7, .ref a8, .ref a9, .ref a10])), (a1, .inl (T 0, 10, .inl af1)), (a2, .inl (T 0, 10, .inl af2)), (a9, .inl (T 0, 10, .inl af9))] H locs → lv_has ls 4 [(3, .int (nI k12)), (2, .int (nI k2)), (0, .ref e0), (1, .ref a0)] → W p l e (rmD 2 0 0) s m args below meth c H locs 0 0 (MQ below (gQ D A (q_e_weigh T e0 a0 e1 e2 em e3 e4 e5 e6 ef an am al ao au a1 a2 a3 a4 a5 a6 a7 a8 a9 a10 af1 af2 af9)) args s 0 0 A) (F0 m 12 ls []) := by
          intro fu_12
          induction fu_12 with
          | zero => intro k12 gb hk12 hmu; exact absurd hmu (Nat.not_lt_zero _)
          | succ fu_12 ih_12 =>
            intro k12 gb hk12 hmu_12 H locs ls V hl
            refine lv_iload_n hx hb dX4_weighChanges_12 rfl (lv_at hl 0 rfl) ?_
            refine lv_aload_n hx hb dX4_weighChanges_13 rfl (lv_at hl 3 rfl) ?_
            refine g_get hC V (ci := 5) uwX5 2 rfl rfl 0 (by decide) w_34 rfl rfl dX4_weighChanges_14 ?_
            refine lv_icmp_ge (tgt := 49) hx hb dX4_weighChanges_17 (by decide) (fun c_4 => ?_) (fun c_4 => ?_)
            · skip
              have c_4 := b_le (by omega) (by omega) c_4
              refine lv_iinc (v := (nI (k2 + 1))) (lv' := [(2, .int (nI (k2 + 1))), (3, .int (nI k12)), (0, .ref e0), (1, .ref a0)]) hx hb dX4_weighChanges_49 hl (k := 1) rfl (nI_1 _) (by decide) rfl (fun ls hl => ?_)
              refine lv_goto (tgt := 2) hx hb dX4_weighChanges_52 (by decide) ?_
              exact ih_2 (k2 + 1) gb (by omega) (by omega) _ _ _ V (lv_sub hl [0, 2, 3] rfl)
            · skip
              have c_4 := b_nle (by omega) (by omega) c_4
              refine lv_aload_n hx hb dX4_weighChanges_20 rfl (lv_at hl 2 rfl) ?_
              refine g_get hC V (ci := 4) uwX4 0 rfl rfl 6 (by decide) w_719 rfl rfl dX4_weighChanges_21 ?_
              refine lv_iconst (v := (nI 3)) hx hb dX4_weighChanges_24 (by decide +kernel) ?_
              refine lv_iload_n hx hb dX4_weighChanges_25 rfl (lv_at hl 1 rfl) ?_
              refine lv_imul hx hb dX4_weighChanges_26 ?_
              refine g_vi (y := (nI (3 * k2))) (pk_mul _ _) ?_
              refine lv_iload_n hx hb dX4_weighChanges_27 rfl (lv_at hl 0 rfl) ?_
              refine lv_iadd hx hb dX4_weighChanges_28 ?_
              refine g_vi (y := (nI ((3 * k2) + k12))) (nI_add _ _) ?_
              refine lv_aload_n hx hb dX4_weighChanges_29 rfl (lv_at hl 3 rfl) ?_
              refine lv_iload_n hx hb dX4_weighChanges_30 rfl (lv_at hl 0 rfl) ?_
              refine lv_iload_n hx hb dX4_weighChanges_31 rfl (lv_at hl 1 rfl) ?_
              refine g_callVU (nA := 2) hC V hl.1 (s_blastOn l D T a0 (nI k12) (nI k2) an am al ao au a1 a2 a3 a4 a5 a6 a7 a8 a9 a10 af1 af9 (by first | assumption | omega)) w_745 w_700 w_701 w_3 w_702 (by decide +kernel) rfl ⟨(Nat.le_of_ble_eq_true rfl), (Nat.le_of_ble_eq_true rfl)⟩ 2 (ci := 5) rfl rfl [2, 3, 5] rfl rfl (Nat.le_of_ble_eq_true rfl) dX4_weighChanges_32 ⟨(Nat.le_of_ble_eq_true rfl), (Nat.le_of_ble_eq_true rfl)⟩ rfl (fun r w1 H locs hQ V => ?_)
              obtain ⟨z_5, rfl, rfl⟩ := hQ
              have V : gW D T A s [(e0, .inr (4, [.ref e1, .ref e2, .int (nI em), .ref e3, .ref e4, .ref e5, .ref e6])), (e6, .inl (T 0, 24, .inl gb)), (a0, .inr (5, [.int (nI an), .int am, .int al, .int ao, .int au, .ref a1, .ref a2, .ref a3, .ref a4, .ref a5, .ref a6, .ref a7, .ref a8, .ref a9, .ref a10])), (a1, .inl (T 0, 10, .inl af1)), (a2, .inl (T 0, 10, .inl af2)), (a9, .inl (T 0, 10, .inl af9))] H locs := V _ [2, 0, 1] rfl rfl rfl (by decide +kernel) rfl
              show W p l e _ s m args below meth c H locs _ _ _ (F0 m 35 ls [.int z_5, .int (nI ((3 * k2) + k12)), .ref e6])
              refine lv_aload_n hx hb dX4_weighChanges_35 rfl (lv_at hl 3 rfl) ?_
              refine g_get hC V (ci := 5) uwX5 2 rfl rfl 6 (by decide) w_57 rfl rfl dX4_weighChanges_36 ?_
              refine lv_iload_n hx hb dX4_weighChanges_39 rfl (lv_at hl 0 rfl) ?_
              refine g_iald hC V 4 rfl (vp_in_nI (by omega) (by omega)) (v := (af2 k12)) (congrArg _ (nI_clamp (by omega))) dX4_weighChanges_40 ?_
              refine lv_isub hx hb dX4_weighChanges_41 ?_
              refine g_iast hC V 1 rfl (vp_in_nI (by omega) (by omega)) (f' := (upd gb ((3 * k2) + k12) (z_5 - (af2 k12)))) (by rw [nI_clamp (by omega)]) (ws' := [(e0, .inr (4, [.ref e1, .ref e2, .int (nI em), .ref e3, .ref e4, .ref e5, .ref e6])), (e6, .inl (T 0, 24, .inl (upd gb ((3 * k2) + k12) (z_5 - (af2 k12))))), (a0, .inr (5, [.int (nI an), .int am, .int al, .int ao, .int au, .ref a1, .ref a2, .ref a3, .ref a4, .ref a5, .ref a6, .ref a7, .ref a8, .ref a9, .ref a10])), (a1, .inl (T 0, 10, .inl af1)), (a2, .inl (T 0, 10, .inl af2)), (a9, .inl (T 0, 10, .inl af9))]) rfl dX4_weighChanges_42 (fun H locs V => ?_)
              refine lv_iinc (v := (nI (k12 + 1))) (lv' := [(3, .int (nI (k12 + 1))), (2, .int (nI k2)), (0, .ref e0), (1, .ref a0)]) hx hb dX4_weighChanges_43 hl (k := 0) rfl (nI_1 _) (by decide) rfl (fun ls hl => ?_)
              refine lv_goto (tgt := 12) hx hb dX4_weighChanges_46 (by decide) ?_
              exact ih_12 (k12 + 1) (upd gb ((3 * k2) + k12) (z_5 - (af2 k12))) (by omega) (by omega) _ _ _ V (lv_sub hl [0, 1, 2, 3] rfl)
        exact L_3 _ 0 ga (by omega) (Nat.lt_succ_self _) _ _ _ V (lv_sub hl [0, 1, 2, 3] rfl)
  exact L_1 _ 0 ef (by omega) (Nat.lt_succ_self _) _ _ _ V (lv_sub hl [0, 1, 2] rfl)

def q_e_packed (T : Nat → ClassId) (i : Int32) (x : Int32) (y : Int32) : Option Value → va_W → Prop := fun rr ww => (∃ (z : Int64), rr = some (.long z) ∧ ww = [])
set_option maxHeartbeats 4000000 in
set_option maxRecDepth 100000 in
theorem e_packed (l : Launch) (D : va_G) (T : Nat → ClassId) (i : Int32) (x : Int32) (y : Int32) : Ct l yX4_packed cX4_packed 3 (some .long) 0 0 0 D T [.int i, .int x, .int y] [] (q_e_packed T i x y) := by
  refine Ct.of (cc := cX4_packed) (maxL := 3) (ret := (some .long)) (by decide) (Nat.le_of_ble_eq_true rfl) ?_
  intro p e s m args below meth c A ls hC hnm V hl
  obtain ⟨hx, hb, hr, hml, hown, hts, hlocks⟩ := id hC
  generalize hH : s.heap = H at V ⊢
  clear hH
  have hl : lv_has ls 3 [(0, .int i), (1, .int x), (2, .int y)] := hl
  generalize hlo : ([] : List Loc) = locs at V ⊢
  clear hlo
  refine lv_iload_n hx hb dX4_packed_0 rfl (lv_at hl 1 rfl) ?_
  refine lv_iconst (v := (nI 5)) hx hb dX4_packed_1 (by decide +kernel) ?_
  refine lv_ishl hx hb dX4_packed_2 ?_
  refine lv_iload_n hx hb dX4_packed_3 rfl (lv_at hl 2 rfl) ?_
  refine lv_ior hx hb dX4_packed_4 ?_
  refine lv_i2l (v := ((x <<< ((nI 5) &&& 31)) ||| y).toInt64) hx hb dX4_packed_5 rfl ?_
  refine lv_iload_n hx hb dX4_packed_6 rfl (lv_at hl 0 rfl) ?_
  refine lv_bipush (v := (nI 13)) hx hb dX4_packed_7 (by decide +kernel) ?_
  refine lv_imul hx hb dX4_packed_9 ?_
  refine lv_lshl hx hb dX4_packed_10 rfl ?_
  refine lv_topl (fun y_1 ey_1 => ?_)
  exact g_lret (Qr := (q_e_packed T i x y)) hC V ⟨(Nat.le_of_ble_eq_true rfl), (Nat.le_of_ble_eq_true rfl)⟩ ⟨y_1, rfl, rfl⟩ dX4_packed_11

def q_e_meetPresent (T : Nat → ClassId) (e0 : Nat) (a0 : Nat) (e1 : Nat) (e2 : Nat) (em : Nat) (e3 : Nat) (e4 : Nat) (e5 : Nat) (e6 : Nat) (ea : Nat → Int64) (eb : Nat → Int32) (an : Nat) (am : Int32) (al : Int32) (ao : Int32) (au : Int32) (a1 : Nat) (a2 : Nat) (a3 : Nat) (a4 : Nat) (a5 : Nat) (a6 : Nat) (a7 : Nat) (a8 : Nat) (a9 : Nat) (a10 : Nat) (af3 : Nat → Int32) (af6 : Nat → Int32) (af7 : Nat → Int32) : Option Value → va_W → Prop := fun rr ww => (∃ (em2 : Nat) (g1 : Nat → Int64) (g2 : Nat → Int32), rr = none ∧ ww = [(e0, .inr (4, [.ref e1, .ref e2, .int (nI em2), .ref e3, .ref e4, .ref e5, .ref e6])), (e1, .inl (T 1, 3001, .inr (.inl g1))), (e2, .inl (T 0, 8192, .inl g2)), (a0, .inr (5, [.int (nI an), .int am, .int al, .int ao, .int au, .ref a1, .ref a2, .ref a3, .ref a4, .ref a5, .ref a6, .ref a7, .ref a8, .ref a9, .ref a10])), (a3, .inl (T 0, 10, .inl af3)), (a6, .inl (T 0, 10, .inl af6)), (a7, .inl (T 0, 10, .inl af7))] ∧ em ≤ em2 ∧ em2 ≤ 3001 ∧ (∀ i, i < 8192 → bd (g2 i) (em2 + 1)))
set_option maxHeartbeats 4000000 in
set_option maxRecDepth 100000 in
theorem e_meetPresent (l : Launch) (D : va_G) (T : Nat → ClassId) (e0 : Nat) (a0 : Nat) (e1 : Nat) (e2 : Nat) (em : Nat) (e3 : Nat) (e4 : Nat) (e5 : Nat) (e6 : Nat) (ea : Nat → Int64) (eb : Nat → Int32) (an : Nat) (am : Int32) (al : Int32) (ao : Int32) (au : Int32) (a1 : Nat) (a2 : Nat) (a3 : Nat) (a4 : Nat) (a5 : Nat) (a6 : Nat) (a7 : Nat) (a8 : Nat) (a9 : Nat) (a10 : Nat) (af3 : Nat → Int32) (af6 : Nat → Int32) (af7 : Nat → Int32) (h_m : em ≤ 3001) (h_sl : ∀ i, i < 8192 → bd (eb i) (em + 1)) (h_n : an ≤ 3) : Ct l yX4_meetPresent cX4_meetPresent 5 none 1 0 0 D T [.ref e0, .ref a0] [(e0, .inr (4, [.ref e1, .ref e2, .int (nI em), .ref e3, .ref e4, .ref e5, .ref e6])), (e1, .inl (T 1, 3001, .inr (.inl ea))), (e2, .inl (T 0, 8192, .inl eb)), (a0, .inr (5, [.int (nI an), .int am, .int al, .int ao, .int au, .ref a1, .ref a2, .ref a3, .ref a4, .ref a5, .ref a6, .ref a7, .ref a8, .ref a9, .ref a10])), (a3, .inl (T 0, 10, .inl af3)), (a6, .inl (T 0, 10, .inl af6)), (a7, .inl (T 0, 10, .inl af7))] (q_e_meetPresent T e0 a0 e1 e2 em e3 e4 e5 e6 ea eb an am al ao au a1 a2 a3 a4 a5 a6 a7 a8 a9 a10 af3 af6 af7) := by
  refine Ct.of (cc := cX4_meetPresent) (maxL := 5) (ret := none) (by decide) (Nat.le_of_ble_eq_true rfl) ?_
  intro p e s m args below meth c A ls hC hnm V hl
  obtain ⟨hx, hb, hr, hml, hown, hts, hlocks⟩ := id hC
  generalize hH : s.heap = H at V ⊢
  clear hH
  have hl : lv_has ls 5 [(0, .ref e0), (1, .ref a0)] := hl
  generalize hlo : ([] : List Loc) = locs at V ⊢
  clear hlo
  refine lv_lconst (v := (nI 0).toInt64) hx hb dX4_meetPresent_0 (by decide +kernel) ?_
  refine lv_lstore_n (lv' := [(2, .long (nI 0).toInt64), (0, .ref e0), (1, .ref a0)]) hx hb dX4_meetPresent_1 rfl hl (by decide) rfl (fun ls hl => ?_)
  refine lv_iconst (v := (nI 0)) hx hb dX4_meetPresent_2 (by decide +kernel) ?_
  refine lv_istore (lv' := [(4, .int (nI 0)), (2, .long (nI 0).toInt64), (0, .ref e0), (1, .ref a0)]) hx hb dX4_meetPresent_3 hl (by decide) rfl (fun ls hl => ?_)
  have L_1 : ∀ (fu : Nat) (k5 : Nat) (x5_2 : Int64), k5 ≤ an → an - k5 < fu → ∀ (H : Heap) (locs : List Loc) (ls : Array Slot), gW D T A s [(e0, .inr (4, [.ref e1, .ref e2, .int (nI em), .ref e3, .ref e4, .ref e5, .ref e6])), (e1, .inl (T 1, 3001, .inr (.inl ea))), (e2, .inl (T 0, 8192, .inl eb)), (a0, .inr (5, [.int (nI an), .int am, .int al, .int ao, .int au, .ref a1, .ref a2, .ref a3, .ref a4, .ref a5, .ref a6, .ref a7, .ref a8, .ref a9, .ref a10])), (a3, .inl (T 0, 10, .inl af3)), (a6, .inl (T 0, 10, .inl af6)), (a7, .inl (T 0, 10, .inl af7))] H locs → lv_has ls 5 [(4, .int (nI k5)), (2, .long x5_2), (0, .ref e0), (1, .ref a0)] → W p l e (rmD 1 0 0) s m args below meth c H locs 0 0 (MQ below (gQ D A (q_e_meetPresent T e0 a0 e1 e2 em e3 e4 e5 e6 ea eb an am al ao au a1 a2 a3 a4 a5 a6 a7 a8 a9 a10 af3 af6 af7)) args s 0 0 A) (F0 m 5 ls []) := by
    intro fu_5
    induction fu_5 with
    | zero => intro k5 x5_2 hk5 hmu; exact absurd hmu (Nat.not_lt_zero _)
    | succ fu_5 ih_5 =>
      intro k5 x5_2 hk5 hmu_5 H locs ls V hl
      refine lv_iload hx hb dX4_meetPresent_5 (lv_at hl 0 rfl) ?_
      refine lv_aload_n hx hb dX4_meetPresent_7 rfl (lv_at hl 3 rfl) ?_
      refine g_get hC V (ci := 5) uwX5 3 rfl rfl 0 (by decide) w_34 rfl rfl dX4_meetPresent_8 ?_
      refine lv_icmp_ge (tgt := 52) hx hb dX4_meetPresent_11 (by decide) (fun c_2 => ?_) (fun c_2 => ?_)
      · skip
        have c_2 := b_le (by omega) (by omega) c_2
        refine lv_aload_n hx hb dX4_meetPresent_52 rfl (lv_at hl 2 rfl) ?_
        refine lv_lload_n hx hb dX4_meetPresent_53 rfl (lv_at hl 1 rfl) ?_
        refine g_callVU (nA := 1) hC V hl.1 (e_meet l D T e0 x5_2 e1 e2 em e3 e4 e5 e6 ea eb (by first | assumption | omega) (by first | assumption | omega)) w_754 w_756 w_s25 w_18 w_757 (by decide +kernel) rfl ⟨(Nat.le_of_ble_eq_true rfl), (Nat.le_of_ble_eq_true rfl)⟩ 0 (ci := 4) rfl rfl [0, 1, 2] rfl rfl (Nat.le_of_ble_eq_true rfl) dX4_meetPresent_54 ⟨(Nat.le_of_ble_eq_true rfl), (Nat.le_of_ble_eq_true rfl)⟩ rfl (fun r w1 H locs hQ V => ?_)
        obtain ⟨em2_3, g1_4, g2_5, rfl, rfl, f_6, f_7, f_8⟩ := hQ
        have V : gW D T A s [(e0, .inr (4, [.ref e1, .ref e2, .int (nI em2_3), .ref e3, .ref e4, .ref e5, .ref e6])), (e1, .inl (T 1, 3001, .inr (.inl g1_4))), (e2, .inl (T 0, 8192, .inl g2_5)), (a0, .inr (5, [.int (nI an), .int am, .int al, .int ao, .int au, .ref a1, .ref a2, .ref a3, .ref a4, .ref a5, .ref a6, .ref a7, .ref a8, .ref a9, .ref a10])), (a3, .inl (T 0, 10, .inl af3)), (a6, .inl (T 0, 10, .inl af6)), (a7, .inl (T 0, 10, .inl af7))] H locs := V _ [0, 0, 0] rfl rfl rfl (by decide +kernel) rfl
        show W p l e _ s m args below meth c H locs _ _ _ (F0 m 57 ls [])
        exact g_vret (Qr := (q_e_meetPresent T e0 a0 e1 e2 em e3 e4 e5 e6 ea eb an am al ao au a1 a2 a3 a4 a5 a6 a7 a8 a9 a10 af3 af6 af7)) hC V ⟨(Nat.le_of_ble_eq_true rfl), (Nat.le_of_ble_eq_true rfl)⟩ ⟨em2_3, g1_4, g2_5, rfl, rfl, (by first | assumption | omega), (by first | assumption | omega), (by first | assumption | omega)⟩ dX4_meetPresent_57
      · skip
        have c_2 := b_nle (by omega) (by omega) c_2
        refine lv_lload_n hx hb dX4_meetPresent_14 rfl (lv_at hl 1 rfl) ?_
        refine lv_iload hx hb dX4_meetPresent_15 (lv_at hl 0 rfl) ?_
        refine lv_aload_n hx hb dX4_meetPresent_17 rfl (lv_at hl 3 rfl) ?_
        refine g_get hC V (ci := 5) uwX5 3 rfl rfl 7 (by decide) w_63 rfl rfl dX4_meetPresent_18 ?_
        refine lv_iload hx hb dX4_meetPresent_21 (lv_at hl 0 rfl) ?_
        refine g_iald hC V 4 rfl (vp_in_nI (by omega) (by omega)) (v := (af3 k5)) (congrArg _ (nI_clamp (by omega))) dX4_meetPresent_23 ?_
        refine lv_aload_n hx hb dX4_meetPresent_24 rfl (lv_at hl 3 rfl) ?_
        refine g_get hC V (ci := 5) uwX5 3 rfl rfl 11 (by decide) w_78 rfl rfl dX4_meetPresent_25 ?_
        refine lv_iload hx hb dX4_meetPresent_28 (lv_at hl 0 rfl) ?_
        refine g_iald hC V 6 rfl (vp_in_nI (by omega) (by omega)) (v := (af7 k5)) (congrArg _ (nI_clamp (by omega))) dX4_meetPresent_30 ?_
        refine lv_aload_n hx hb dX4_meetPresent_31 rfl (lv_at hl 3 rfl) ?_
        refine g_get hC V (ci := 5) uwX5 3 rfl rfl 10 (by decide) w_75 rfl rfl dX4_meetPresent_32 ?_
        refine lv_iload hx hb dX4_meetPresent_35 (lv_at hl 0 rfl) ?_
        refine g_iald hC V 5 rfl (vp_in_nI (by omega) (by omega)) (v := (af6 k5)) (congrArg _ (nI_clamp (by omega))) dX4_meetPresent_37 ?_
        refine va_mmin hx hb (hml.trans hl.1.symm) hown (hts _ w_750) (hts _ w_300) (hts _ w_10) (hts _ w_301) (Nat.le_of_ble_eq_true rfl) (Nat.le_of_ble_eq_true rfl) (Nat.le_of_ble_eq_true rfl) (Nat.le_of_ble_eq_true rfl) dX4_meetPresent_38 ?_
        refine g_callSU (nA := 3) hC V hl.1 (e_packed l D T (nI k5) (af3 k5) (if (af6 k5) < (af7 k5) then (af6 k5) else (af7 k5))) w_751 w_752 w_18 w_753 (by decide +kernel) rfl ⟨(Nat.le_of_ble_eq_true rfl), (Nat.le_of_ble_eq_true rfl)⟩ [] rfl rfl (Nat.le_of_ble_eq_true rfl) dX4_meetPresent_41 ⟨(Nat.le_of_ble_eq_true rfl), (Nat.le_of_ble_eq_true rfl)⟩ rfl (fun r w1 H locs hQ V => ?_)
        obtain ⟨z_9, rfl, rfl⟩ := hQ
        have V : gW D T A s [(e0, .inr (4, [.ref e1, .ref e2, .int (nI em), .ref e3, .ref e4, .ref e5, .ref e6])), (e1, .inl (T 1, 3001, .inr (.inl ea))), (e2, .inl (T 0, 8192, .inl eb)), (a0, .inr (5, [.int (nI an), .int am, .int al, .int ao, .int au, .ref a1, .ref a2, .ref a3, .ref a4, .ref a5, .ref a6, .ref a7, .ref a8, .ref a9, .ref a10])), (a3, .inl (T 0, 10, .inl af3)), (a6, .inl (T 0, 10, .inl af6)), (a7, .inl (T 0, 10, .inl af7))] H locs := V _ [] rfl rfl rfl (by decide +kernel) rfl
        show W p l e _ s m args below meth c H locs _ _ _ (F0 m 44 ls [.long z_9, .long x5_2])
        refine lv_lor hx hb dX4_meetPresent_44 ?_
        refine lv_lstore_n (lv' := [(2, .long (x5_2 ||| z_9)), (4, .int (nI k5)), (0, .ref e0), (1, .ref a0)]) hx hb dX4_meetPresent_45 rfl hl (by decide) rfl (fun ls hl => ?_)
        refine lv_iinc (v := (nI (k5 + 1))) (lv' := [(4, .int (nI (k5 + 1))), (2, .long (x5_2 ||| z_9)), (0, .ref e0), (1, .ref a0)]) hx hb dX4_meetPresent_46 hl (k := 1) rfl (nI_1 _) (by decide) rfl (fun ls hl => ?_)
        refine lv_goto (tgt := 5) hx hb dX4_meetPresent_49 (by decide) ?_
        exact ih_5 (k5 + 1) (x5_2 ||| z_9) (by omega) (by omega) _ _ _ V (lv_sub hl [0, 1, 2, 3] rfl)
  exact L_1 _ 0 ((nI 0).toInt64) (by omega) (Nat.lt_succ_self _) _ _ _ V (lv_sub hl [0, 1, 2, 3] rfl)

def q_e_unpack (T : Nat → ClassId) (e0 : Nat) (a0 : Nat) (v : Int64) (e1 : Nat) (e2 : Nat) (em : Nat) (e3 : Nat) (e4 : Nat) (e5 : Nat) (e6 : Nat) (ec : Nat → Int32) (ed : Nat → Int32) (an : Nat) (am : Int32) (al : Int32) (ao : Int32) (au : Int32) (a1 : Nat) (a2 : Nat) (a3 : Nat) (a4 : Nat) (a5 : Nat) (a6 : Nat) (a7 : Nat) (a8 : Nat) (a9 : Nat) (a10 : Nat) : Option Value → va_W → Prop := fun rr ww => (∃ (gc : Nat → Int32) (gd : Nat → Int32), rr = none ∧ ww = [(e0, .inr (4, [.ref e1, .ref e2, .int (nI em), .ref e3, .ref e4, .ref e5, .ref e6])), (e3, .inl (T 0, 3, .inl gc)), (e4, .inl (T 0, 3, .inl gd)), (a0, .inr (5, [.int (nI an), .int am, .int al, .int ao, .int au, .ref a1, .ref a2, .ref a3, .ref a4, .ref a5, .ref a6, .ref a7, .ref a8, .ref a9, .ref a10]))])
set_option maxHeartbeats 4000000 in
set_option maxRecDepth 100000 in
theorem e_unpack (l : Launch) (D : va_G) (T : Nat → ClassId) (e0 : Nat) (a0 : Nat) (v : Int64) (e1 : Nat) (e2 : Nat) (em : Nat) (e3 : Nat) (e4 : Nat) (e5 : Nat) (e6 : Nat) (ec : Nat → Int32) (ed : Nat → Int32) (an : Nat) (am : Int32) (al : Int32) (ao : Int32) (au : Int32) (a1 : Nat) (a2 : Nat) (a3 : Nat) (a4 : Nat) (a5 : Nat) (a6 : Nat) (a7 : Nat) (a8 : Nat) (a9 : Nat) (a10 : Nat) (h_n : an ≤ 3) : Ct l yX4_unpack cX4_unpack 6 none 0 0 0 D T [.ref e0, .ref a0, .long v] [(e0, .inr (4, [.ref e1, .ref e2, .int (nI em), .ref e3, .ref e4, .ref e5, .ref e6])), (e3, .inl (T 0, 3, .inl ec)), (e4, .inl (T 0, 3, .inl ed)), (a0, .inr (5, [.int (nI an), .int am, .int al, .int ao, .int au, .ref a1, .ref a2, .ref a3, .ref a4, .ref a5, .ref a6, .ref a7, .ref a8, .ref a9, .ref a10]))] (q_e_unpack T e0 a0 v e1 e2 em e3 e4 e5 e6 ec ed an am al ao au a1 a2 a3 a4 a5 a6 a7 a8 a9 a10) := by
  refine Ct.of (cc := cX4_unpack) (maxL := 6) (ret := none) (by decide) (Nat.le_of_ble_eq_true rfl) ?_
  intro p e s m args below meth c A ls hC hnm V hl
  obtain ⟨hx, hb, hr, hml, hown, hts, hlocks⟩ := id hC
  generalize hH : s.heap = H at V ⊢
  clear hH
  have hl : lv_has ls 6 [(0, .ref e0), (1, .ref a0), (2, .long v)] := hl
  generalize hlo : ([] : List Loc) = locs at V ⊢
  clear hlo
  refine lv_iconst (v := (nI 0)) hx hb dX4_unpack_0 (by decide +kernel) ?_
  refine lv_istore (lv' := [(4, .int (nI 0)), (0, .ref e0), (1, .ref a0), (2, .long v)]) hx hb dX4_unpack_1 hl (by decide) rfl (fun ls hl => ?_)
  have L_1 : ∀ (fu : Nat) (k3 : Nat) (ga : Nat → Int32) (gb : Nat → Int32), k3 ≤ an → an - k3 < fu → ∀ (H : Heap) (locs : List Loc) (ls : Array Slot), gW D T A s [(e0, .inr (4, [.ref e1, .ref e2, .int (nI em), .ref e3, .ref e4, .ref e5, .ref e6])), (e3, .inl (T 0, 3, .inl ga)), (e4, .inl (T 0, 3, .inl gb)), (a0, .inr (5, [.int (nI an), .int am, .int al, .int ao, .int au, .ref a1, .ref a2, .ref a3, .ref a4, .ref a5, .ref a6, .ref a7, .ref a8, .ref a9, .ref a10]))] H locs → lv_has ls 6 [(4, .int (nI k3)), (0, .ref e0), (1, .ref a0), (2, .long v)] → W p l e (rmD 0 0 0) s m args below meth c H locs 0 0 (MQ below (gQ D A (q_e_unpack T e0 a0 v e1 e2 em e3 e4 e5 e6 ec ed an am al ao au a1 a2 a3 a4 a5 a6 a7 a8 a9 a10)) args s 0 0 A) (F0 m 3 ls []) := by
    intro fu_3
    induction fu_3 with
    | zero => intro k3 ga gb hk3 hmu; exact absurd hmu (Nat.not_lt_zero _)
    | succ fu_3 ih_3 =>
      intro k3 ga gb hk3 hmu_3 H locs ls V hl
      refine lv_iload hx hb dX4_unpack_3 (lv_at hl 0 rfl) ?_
      refine lv_aload_n hx hb dX4_unpack_5 rfl (lv_at hl 2 rfl) ?_
      refine g_get hC V (ci := 5) uwX5 3 rfl rfl 0 (by decide) w_34 rfl rfl dX4_unpack_6 ?_
      refine lv_icmp_ge (tgt := 61) hx hb dX4_unpack_9 (by decide) (fun c_2 => ?_) (fun c_2 => ?_)
      · skip
        have c_2 := b_le (by omega) (by omega) c_2
        exact g_vret (Qr := (q_e_unpack T e0 a0 v e1 e2 em e3 e4 e5 e6 ec ed an am al ao au a1 a2 a3 a4 a5 a6 a7 a8 a9 a10)) hC V ⟨(Nat.le_of_ble_eq_true rfl), (Nat.le_of_ble_eq_true rfl)⟩ ⟨ga, gb, rfl, rfl⟩ dX4_unpack_61
      · skip
        have c_2 := b_nle (by omega) (by omega) c_2
        refine lv_iload hx hb dX4_unpack_12 (lv_at hl 0 rfl) ?_
        refine lv_iconst (v := (nI 3)) hx hb dX4_unpack_14 (by decide +kernel) ?_
        refine lv_icmp_ge (tgt := 61) hx hb dX4_unpack_15 (by decide) (fun c_3 => ?_) (fun c_3 => ?_)
        · skip
          have c_3 := b_le (by omega) (by omega) c_3
          exact g_vret (Qr := (q_e_unpack T e0 a0 v e1 e2 em e3 e4 e5 e6 ec ed an am al ao au a1 a2 a3 a4 a5 a6 a7 a8 a9 a10)) hC V ⟨(Nat.le_of_ble_eq_true rfl), (Nat.le_of_ble_eq_true rfl)⟩ ⟨ga, gb, rfl, rfl⟩ dX4_unpack_61
        · skip
          have c_3 := b_nle (by omega) (by omega) c_3
          refine lv_lload_n hx hb dX4_unpack_18 rfl (lv_at hl 3 rfl) ?_
          refine lv_iload hx hb dX4_unpack_19 (lv_at hl 0 rfl) ?_
          refine lv_bipush (v := (nI 13)) hx hb dX4_unpack_21 (by decide +kernel) ?_
          refine lv_imul hx hb dX4_unpack_23 ?_
          refine g_vi (y := (nI (k3 * 13))) (pk_mul _ _) ?_
          refine lv_lshr hx hb dX4_unpack_24 rfl ?_
          refine lv_l2i hx hb dX4_unpack_25 rfl ?_
          refine lv_istore (lv' := [(5, .int ((v >>> (((nI (k3 * 13))).toInt64 &&& 63)).toInt32)), (4, .int (nI k3)), (0, .ref e0), (1, .ref a0), (2, .long v)]) hx hb dX4_unpack_26 hl (by decide) rfl (fun ls hl => ?_)
          refine lv_aload_n hx hb dX4_unpack_28 rfl (lv_at hl 2 rfl) ?_
          refine g_get hC V (ci := 4) uwX4 0 rfl rfl 4 (by decide) w_717 rfl rfl dX4_unpack_29 ?_
          refine lv_iload hx hb dX4_unpack_32 (lv_at hl 1 rfl) ?_
          refine lv_iload hx hb dX4_unpack_34 (lv_at hl 0 rfl) ?_
          refine lv_bipush (v := (nI 31)) hx hb dX4_unpack_36 (by decide +kernel) ?_
          refine lv_iand hx hb dX4_unpack_38 ?_
          refine lv_topi (fun x_4 ex_4 => ?_)
          refine g_iast hC V 2 rfl (vp_in_nI (by omega) (by omega)) (f' := (upd gb k3 x_4)) (by rw [nI_clamp (by omega)]) (ws' := [(e0, .inr (4, [.ref e1, .ref e2, .int (nI em), .ref e3, .ref e4, .ref e5, .ref e6])), (e3, .inl (T 0, 3, .inl ga)), (e4, .inl (T 0, 3, .inl (upd gb k3 x_4))), (a0, .inr (5, [.int (nI an), .int am, .int al, .int ao, .int au, .ref a1, .ref a2, .ref a3, .ref a4, .ref a5, .ref a6, .ref a7, .ref a8, .ref a9, .ref a10]))]) rfl dX4_unpack_39 (fun H locs V => ?_)
          refine lv_aload_n hx hb dX4_unpack_40 rfl (lv_at hl 2 rfl) ?_
          refine g_get hC V (ci := 4) uwX4 0 rfl rfl 3 (by decide) w_716 rfl rfl dX4_unpack_41 ?_
          refine lv_iload hx hb dX4_unpack_44 (lv_at hl 1 rfl) ?_
          refine lv_iload hx hb dX4_unpack_46 (lv_at hl 0 rfl) ?_
          refine lv_iconst (v := (nI 5)) hx hb dX4_unpack_48 (by decide +kernel) ?_
          refine lv_ishr hx hb dX4_unpack_49 ?_
          refine lv_topi (fun x_5 ex_5 => ?_)
          refine lv_sipush (v := (nI 255)) hx hb dX4_unpack_50 (by decide +kernel) ?_
          refine lv_iand hx hb dX4_unpack_53 ?_
          refine g_iast hC V 1 rfl (vp_in_nI (by omega) (by omega)) (f' := (upd ga k3 (x_5 &&& (nI 255)))) (by rw [nI_clamp (by omega)]) (ws' := [(e0, .inr (4, [.ref e1, .ref e2, .int (nI em), .ref e3, .ref e4, .ref e5, .ref e6])), (e3, .inl (T 0, 3, .inl (upd ga k3 (x_5 &&& (nI 255))))), (e4, .inl (T 0, 3, .inl (upd gb k3 x_4))), (a0, .inr (5, [.int (nI an), .int am, .int al, .int ao, .int au, .ref a1, .ref a2, .ref a3, .ref a4, .ref a5, .ref a6, .ref a7, .ref a8, .ref a9, .ref a10]))]) rfl dX4_unpack_54 (fun H locs V => ?_)
          refine lv_iinc (v := (nI (k3 + 1))) (lv' := [(4, .int (nI (k3 + 1))), (5, .int ((v >>> (((nI (k3 * 13))).toInt64 &&& 63)).toInt32)), (0, .ref e0), (1, .ref a0), (2, .long v)]) hx hb dX4_unpack_55 hl (k := 1) rfl (nI_1 _) (by decide) rfl (fun ls hl => ?_)
          refine lv_goto (tgt := 3) hx hb dX4_unpack_58 (by decide) ?_
          exact ih_3 (k3 + 1) (upd ga k3 (x_5 &&& (nI 255))) (upd gb k3 x_4) (by omega) (by omega) _ _ _ V (lv_sub hl [0, 2, 3, 4] rfl)
  exact L_1 _ 0 ec ed (by omega) (Nat.lt_succ_self _) _ _ _ V (lv_sub hl [0, 1, 2, 3] rfl)

def q_e_canStrike (T : Nat → ClassId) (e0 : Nat) (a0 : Nat) (j : Nat) (e1 : Nat) (e2 : Nat) (em : Nat) (e3 : Nat) (e4 : Nat) (e5 : Nat) (e6 : Nat) (ec : Nat → Int32) (ed : Nat → Int32) (an : Nat) (am : Int32) (al : Int32) (ao : Int32) (au : Int32) (a1 : Nat) (a2 : Nat) (a3 : Nat) (a4 : Nat) (a5 : Nat) (a6 : Nat) (a7 : Nat) (a8 : Nat) (a9 : Nat) (a10 : Nat) (af4 : Nat → Int32) (af5 : Nat → Int32) (af6 : Nat → Int32) : Option Value → va_W → Prop := fun rr ww => (rr = some (.int (nI 1)) ∧ ww = [(e0, .inr (4, [.ref e1, .ref e2, .int (nI em), .ref e3, .ref e4, .ref e5, .ref e6])), (e3, .inl (T 0, 3, .inl ec)), (e4, .inl (T 0, 3, .inl ed)), (a0, .inr (5, [.int (nI an), .int am, .int al, .int ao, .int au, .ref a1, .ref a2, .ref a3, .ref a4, .ref a5, .ref a6, .ref a7, .ref a8, .ref a9, .ref a10])), (a4, .inl (T 0, 10, .inl af4)), (a5, .inl (T 0, 10, .inl af5)), (a6, .inl (T 0, 10, .inl af6))]) ∨ (rr = some (.int (nI 0)) ∧ ww = [(e0, .inr (4, [.ref e1, .ref e2, .int (nI em), .ref e3, .ref e4, .ref e5, .ref e6])), (e3, .inl (T 0, 3, .inl ec)), (e4, .inl (T 0, 3, .inl ed)), (a0, .inr (5, [.int (nI an), .int am, .int al, .int ao, .int au, .ref a1, .ref a2, .ref a3, .ref a4, .ref a5, .ref a6, .ref a7, .ref a8, .ref a9, .ref a10])), (a4, .inl (T 0, 10, .inl af4)), (a5, .inl (T 0, 10, .inl af5)), (a6, .inl (T 0, 10, .inl af6))])
set_option maxHeartbeats 4000000 in
set_option maxRecDepth 100000 in
theorem e_canStrike (l : Launch) (D : va_G) (T : Nat → ClassId) (e0 : Nat) (a0 : Nat) (j : Nat) (e1 : Nat) (e2 : Nat) (em : Nat) (e3 : Nat) (e4 : Nat) (e5 : Nat) (e6 : Nat) (ec : Nat → Int32) (ed : Nat → Int32) (an : Nat) (am : Int32) (al : Int32) (ao : Int32) (au : Int32) (a1 : Nat) (a2 : Nat) (a3 : Nat) (a4 : Nat) (a5 : Nat) (a6 : Nat) (a7 : Nat) (a8 : Nat) (a9 : Nat) (a10 : Nat) (af4 : Nat → Int32) (af5 : Nat → Int32) (af6 : Nat → Int32) (h_j : j < 3) : Ct l yX4_canStrike cX4_canStrike 3 (some .boolean) 1 0 0 D T [.ref e0, .ref a0, .int (nI j)] [(e0, .inr (4, [.ref e1, .ref e2, .int (nI em), .ref e3, .ref e4, .ref e5, .ref e6])), (e3, .inl (T 0, 3, .inl ec)), (e4, .inl (T 0, 3, .inl ed)), (a0, .inr (5, [.int (nI an), .int am, .int al, .int ao, .int au, .ref a1, .ref a2, .ref a3, .ref a4, .ref a5, .ref a6, .ref a7, .ref a8, .ref a9, .ref a10])), (a4, .inl (T 0, 10, .inl af4)), (a5, .inl (T 0, 10, .inl af5)), (a6, .inl (T 0, 10, .inl af6))] (q_e_canStrike T e0 a0 j e1 e2 em e3 e4 e5 e6 ec ed an am al ao au a1 a2 a3 a4 a5 a6 a7 a8 a9 a10 af4 af5 af6) := by
  refine Ct.of (cc := cX4_canStrike) (maxL := 3) (ret := (some .boolean)) (by decide) (Nat.le_of_ble_eq_true rfl) ?_
  intro p e s m args below meth c A ls hC hnm V hl
  obtain ⟨hx, hb, hr, hml, hown, hts, hlocks⟩ := id hC
  generalize hH : s.heap = H at V ⊢
  clear hH
  have hl : lv_has ls 3 [(0, .ref e0), (1, .ref a0), (2, .int (nI j))] := hl
  generalize hlo : ([] : List Loc) = locs at V ⊢
  clear hlo
  refine lv_aload_n hx hb dX4_canStrike_0 rfl (lv_at hl 0 rfl) ?_
  refine g_get hC V (ci := 4) uwX4 0 rfl rfl 4 (by decide) w_717 rfl rfl dX4_canStrike_1 ?_
  refine lv_iload_n hx hb dX4_canStrike_4 rfl (lv_at hl 2 rfl) ?_
  refine g_iald hC V 2 rfl (vp_in_nI (by omega) (by omega)) (v := (ed j)) (congrArg _ (nI_clamp (by omega))) dX4_canStrike_5 ?_
  refine lv_aload_n hx hb dX4_canStrike_6 rfl (lv_at hl 1 rfl) ?_
  refine g_get hC V (ci := 5) uwX5 3 rfl rfl 10 (by decide) w_75 rfl rfl dX4_canStrike_7 ?_
  refine lv_iload_n hx hb dX4_canStrike_10 rfl (lv_at hl 2 rfl) ?_
  refine g_iald hC V 6 rfl (vp_in_nI (by omega) (by omega)) (v := (af6 j)) (congrArg _ (nI_clamp (by omega))) dX4_canStrike_11 ?_
  refine lv_icmp_ge (tgt := 33) hx hb dX4_canStrike_12 (by decide) (fun c_1 => ?_) (fun c_1 => ?_)
  · skip
    refine lv_iconst (v := (nI 0)) hx hb dX4_canStrike_33 (by decide +kernel) ?_
    exact g_zret (Qr := (q_e_canStrike T e0 a0 j e1 e2 em e3 e4 e5 e6 ec ed an am al ao au a1 a2 a3 a4 a5 a6 a7 a8 a9 a10 af4 af5 af6)) hC V ⟨(Nat.le_of_ble_eq_true rfl), (Nat.le_of_ble_eq_true rfl)⟩ (by first | decide +kernel | exact rfl) (.inr ⟨rfl, rfl⟩) dX4_canStrike_34
  · skip
    refine lv_aload_n hx hb dX4_canStrike_15 rfl (lv_at hl 1 rfl) ?_
    refine lv_iload_n hx hb dX4_canStrike_16 rfl (lv_at hl 2 rfl) ?_
    refine lv_aload_n hx hb dX4_canStrike_17 rfl (lv_at hl 0 rfl) ?_
    refine g_get hC V (ci := 4) uwX4 0 rfl rfl 3 (by decide) w_716 rfl rfl dX4_canStrike_18 ?_
    refine lv_iload_n hx hb dX4_canStrike_21 rfl (lv_at hl 2 rfl) ?_
    refine g_iald hC V 1 rfl (vp_in_nI (by omega) (by omega)) (v := (ec j)) (congrArg _ (nI_clamp (by omega))) dX4_canStrike_22 ?_
    refine g_callVU (nA := 2) hC V hl.1 (s_isWorkableAt l D T a0 j (ec j) an am al ao au a1 a2 a3 a4 a5 a6 a7 a8 a9 a10 af4 af5 (by first | assumption | omega)) w_771 w_479 w_480 w_3 w_481 (by decide +kernel) rfl ⟨(Nat.le_of_ble_eq_true rfl), (Nat.le_of_ble_eq_true rfl)⟩ 3 (ci := 5) rfl rfl [3, 4, 5] rfl rfl (Nat.le_of_ble_eq_true rfl) dX4_canStrike_23 ⟨(Nat.le_of_ble_eq_true rfl), (Nat.le_of_ble_eq_true rfl)⟩ rfl (fun r w1 H locs hQ V => ?_)
    rcases hQ with ⟨rfl, rfl, f_2, f_3⟩ | ⟨rfl, rfl, f_4⟩
    · have V : gW D T A s [(e0, .inr (4, [.ref e1, .ref e2, .int (nI em), .ref e3, .ref e4, .ref e5, .ref e6])), (e3, .inl (T 0, 3, .inl ec)), (e4, .inl (T 0, 3, .inl ed)), (a0, .inr (5, [.int (nI an), .int am, .int al, .int ao, .int au, .ref a1, .ref a2, .ref a3, .ref a4, .ref a5, .ref a6, .ref a7, .ref a8, .ref a9, .ref a10])), (a4, .inl (T 0, 10, .inl af4)), (a5, .inl (T 0, 10, .inl af5)), (a6, .inl (T 0, 10, .inl af6))] H locs := V _ [3, 0, 0] rfl rfl rfl (by decide +kernel) rfl
      show W p l e _ s m args below meth c H locs _ _ _ (F0 m 26 ls [.int (nI 1)])
      refine lv_if_eq (tgt := 33) hx hb dX4_canStrike_26 (by decide) (fun c => absurd (show (nI 1) = 0 from c) (by decide +kernel)) (fun _ => ?_)
      refine lv_iconst (v := (nI 1)) hx hb dX4_canStrike_29 (by decide +kernel) ?_
      refine lv_goto (tgt := 34) hx hb dX4_canStrike_30 (by decide) ?_
      exact g_zret (Qr := (q_e_canStrike T e0 a0 j e1 e2 em e3 e4 e5 e6 ec ed an am al ao au a1 a2 a3 a4 a5 a6 a7 a8 a9 a10 af4 af5 af6)) hC V ⟨(Nat.le_of_ble_eq_true rfl), (Nat.le_of_ble_eq_true rfl)⟩ (by first | decide +kernel | exact rfl) (.inl ⟨rfl, rfl⟩) dX4_canStrike_34
    · have V : gW D T A s [(e0, .inr (4, [.ref e1, .ref e2, .int (nI em), .ref e3, .ref e4, .ref e5, .ref e6])), (e3, .inl (T 0, 3, .inl ec)), (e4, .inl (T 0, 3, .inl ed)), (a0, .inr (5, [.int (nI an), .int am, .int al, .int ao, .int au, .ref a1, .ref a2, .ref a3, .ref a4, .ref a5, .ref a6, .ref a7, .ref a8, .ref a9, .ref a10])), (a4, .inl (T 0, 10, .inl af4)), (a5, .inl (T 0, 10, .inl af5)), (a6, .inl (T 0, 10, .inl af6))] H locs := V _ [3, 0, 0] rfl rfl rfl (by decide +kernel) rfl
      show W p l e _ s m args below meth c H locs _ _ _ (F0 m 26 ls [.int (nI 0)])
      refine lv_if_eq (tgt := 33) hx hb dX4_canStrike_26 (by decide) (fun _ => ?_) (fun c => absurd (show (nI 0) = 0 by decide +kernel) c)
      refine lv_iconst (v := (nI 0)) hx hb dX4_canStrike_33 (by decide +kernel) ?_
      exact g_zret (Qr := (q_e_canStrike T e0 a0 j e1 e2 em e3 e4 e5 e6 ec ed an am al ao au a1 a2 a3 a4 a5 a6 a7 a8 a9 a10 af4 af5 af6)) hC V ⟨(Nat.le_of_ble_eq_true rfl), (Nat.le_of_ble_eq_true rfl)⟩ (by first | decide +kernel | exact rfl) (.inr ⟨rfl, rfl⟩) dX4_canStrike_34

def q_e_endsNext (T : Nat → ClassId) (e0 : Nat) (a0 : Nat) (v : Int64) (e1 : Nat) (e2 : Nat) (em : Nat) (e3 : Nat) (e4 : Nat) (e5 : Nat) (e6 : Nat) (ec : Nat → Int32) (ed : Nat → Int32) (an : Nat) (am : Int32) (al : Int32) (ao : Int32) (au : Int32) (a1 : Nat) (a2 : Nat) (a3 : Nat) (a4 : Nat) (a5 : Nat) (a6 : Nat) (a7 : Nat) (a8 : Nat) (a9 : Nat) (a10 : Nat) (af4 : Nat → Int32) (af5 : Nat → Int32) (af6 : Nat → Int32) : Option Value → va_W → Prop := fun rr ww => (∃ (gc : Nat → Int32) (gd : Nat → Int32), rr = some (.int (nI 1)) ∧ ww = [(e0, .inr (4, [.ref e1, .ref e2, .int (nI em), .ref e3, .ref e4, .ref e5, .ref e6])), (e3, .inl (T 0, 3, .inl gc)), (e4, .inl (T 0, 3, .inl gd)), (a0, .inr (5, [.int (nI an), .int am, .int al, .int ao, .int au, .ref a1, .ref a2, .ref a3, .ref a4, .ref a5, .ref a6, .ref a7, .ref a8, .ref a9, .ref a10])), (a4, .inl (T 0, 10, .inl af4)), (a5, .inl (T 0, 10, .inl af5)), (a6, .inl (T 0, 10, .inl af6))]) ∨ (∃ (gc : Nat → Int32) (gd : Nat → Int32), rr = some (.int (nI 0)) ∧ ww = [(e0, .inr (4, [.ref e1, .ref e2, .int (nI em), .ref e3, .ref e4, .ref e5, .ref e6])), (e3, .inl (T 0, 3, .inl gc)), (e4, .inl (T 0, 3, .inl gd)), (a0, .inr (5, [.int (nI an), .int am, .int al, .int ao, .int au, .ref a1, .ref a2, .ref a3, .ref a4, .ref a5, .ref a6, .ref a7, .ref a8, .ref a9, .ref a10])), (a4, .inl (T 0, 10, .inl af4)), (a5, .inl (T 0, 10, .inl af5)), (a6, .inl (T 0, 10, .inl af6))])
set_option maxHeartbeats 4000000 in
set_option maxRecDepth 100000 in
theorem e_endsNext (l : Launch) (D : va_G) (T : Nat → ClassId) (e0 : Nat) (a0 : Nat) (v : Int64) (e1 : Nat) (e2 : Nat) (em : Nat) (e3 : Nat) (e4 : Nat) (e5 : Nat) (e6 : Nat) (ec : Nat → Int32) (ed : Nat → Int32) (an : Nat) (am : Int32) (al : Int32) (ao : Int32) (au : Int32) (a1 : Nat) (a2 : Nat) (a3 : Nat) (a4 : Nat) (a5 : Nat) (a6 : Nat) (a7 : Nat) (a8 : Nat) (a9 : Nat) (a10 : Nat) (af4 : Nat → Int32) (af5 : Nat → Int32) (af6 : Nat → Int32) (h_n : an ≤ 3) : Ct l yX4_endsNext cX4_endsNext 6 (some .boolean) 2 0 0 D T [.ref e0, .ref a0, .long v] [(e0, .inr (4, [.ref e1, .ref e2, .int (nI em), .ref e3, .ref e4, .ref e5, .ref e6])), (e3, .inl (T 0, 3, .inl ec)), (e4, .inl (T 0, 3, .inl ed)), (a0, .inr (5, [.int (nI an), .int am, .int al, .int ao, .int au, .ref a1, .ref a2, .ref a3, .ref a4, .ref a5, .ref a6, .ref a7, .ref a8, .ref a9, .ref a10])), (a4, .inl (T 0, 10, .inl af4)), (a5, .inl (T 0, 10, .inl af5)), (a6, .inl (T 0, 10, .inl af6))] (q_e_endsNext T e0 a0 v e1 e2 em e3 e4 e5 e6 ec ed an am al ao au a1 a2 a3 a4 a5 a6 a7 a8 a9 a10 af4 af5 af6) := by
  refine Ct.of (cc := cX4_endsNext) (maxL := 6) (ret := (some .boolean)) (by decide) (Nat.le_of_ble_eq_true rfl) ?_
  intro p e s m args below meth c A ls hC hnm V hl
  obtain ⟨hx, hb, hr, hml, hown, hts, hlocks⟩ := id hC
  generalize hH : s.heap = H at V ⊢
  clear hH
  have hl : lv_has ls 6 [(0, .ref e0), (1, .ref a0), (2, .long v)] := hl
  generalize hlo : ([] : List Loc) = locs at V ⊢
  clear hlo
  refine lv_aload_n hx hb dX4_endsNext_0 rfl (lv_at hl 0 rfl) ?_
  refine lv_aload_n hx hb dX4_endsNext_1 rfl (lv_at hl 1 rfl) ?_
  refine lv_lload_n hx hb dX4_endsNext_2 rfl (lv_at hl 2 rfl) ?_
  refine g_callVU (nA := 2) hC V hl.1 (e_unpack l D T e0 a0 v e1 e2 em e3 e4 e5 e6 ec ed an am al ao au a1 a2 a3 a4 a5 a6 a7 a8 a9 a10 (by first | assumption | omega)) w_763 w_765 w_s27 w_18 w_766 (by decide +kernel) rfl ⟨(Nat.le_of_ble_eq_true rfl), (Nat.le_of_ble_eq_true rfl)⟩ 0 (ci := 4) rfl rfl [0, 1, 2, 3] rfl rfl (Nat.le_of_ble_eq_true rfl) dX4_endsNext_3 ⟨(Nat.le_of_ble_eq_true rfl), (Nat.le_of_ble_eq_true rfl)⟩ rfl (fun r w1 H locs hQ V => ?_)
  obtain ⟨gc_1, gd_2, rfl, rfl⟩ := hQ
  have V : gW D T A s [(e0, .inr (4, [.ref e1, .ref e2, .int (nI em), .ref e3, .ref e4, .ref e5, .ref e6])), (e3, .inl (T 0, 3, .inl gc_1)), (e4, .inl (T 0, 3, .inl gd_2)), (a0, .inr (5, [.int (nI an), .int am, .int al, .int ao, .int au, .ref a1, .ref a2, .ref a3, .ref a4, .ref a5, .ref a6, .ref a7, .ref a8, .ref a9, .ref a10])), (a4, .inl (T 0, 10, .inl af4)), (a5, .inl (T 0, 10, .inl af5)), (a6, .inl (T 0, 10, .inl af6))] H locs := V _ [0, 0, 0, 0] rfl rfl rfl (by decide +kernel) rfl
  show W p l e _ s m args below meth c H locs _ _ _ (F0 m 6 ls [])
  refine lv_iconst (v := (nI 0)) hx hb dX4_endsNext_6 (by decide +kernel) ?_
  refine lv_istore (lv' := [(4, .int (nI 0)), (0, .ref e0), (1, .ref a0), (2, .long v)]) hx hb dX4_endsNext_7 hl (by decide) rfl (fun ls hl => ?_)
  have L_3 : ∀ (fu : Nat) (k9 : Nat), k9 ≤ an → an - k9 < fu → ∀ (H : Heap) (locs : List Loc) (ls : Array Slot), gW D T A s [(e0, .inr (4, [.ref e1, .ref e2, .int (nI em), .ref e3, .ref e4, .ref e5, .ref e6])), (e3, .inl (T 0, 3, .inl gc_1)), (e4, .inl (T 0, 3, .inl gd_2)), (a0, .inr (5, [.int (nI an), .int am, .int al, .int ao, .int au, .ref a1, .ref a2, .ref a3, .ref a4, .ref a5, .ref a6, .ref a7, .ref a8, .ref a9, .ref a10])), (a4, .inl (T 0, 10, .inl af4)), (a5, .inl (T 0, 10, .inl af5)), (a6, .inl (T 0, 10, .inl af6))] H locs → lv_has ls 6 [(4, .int (nI k9)), (0, .ref e0), (1, .ref a0), (2, .long v)] → W p l e (rmD 2 0 0) s m args below meth c H locs 0 0 (MQ below (gQ D A (q_e_endsNext T e0 a0 v e1 e2 em e3 e4 e5 e6 ec ed an am al ao au a1 a2 a3 a4 a5 a6 a7 a8 a9 a10 af4 af5 af6)) args s 0 0 A) (F0 m 9 ls []) := by
    intro fu_9
    induction fu_9 with
    | zero => intro k9 hk9 hmu; exact absurd hmu (Nat.not_lt_zero _)
    | succ fu_9 ih_9 =>
      intro k9 hk9 hmu_9 H locs ls V hl
      refine lv_iload hx hb dX4_endsNext_9 (lv_at hl 0 rfl) ?_
      refine lv_aload_n hx hb dX4_endsNext_11 rfl (lv_at hl 2 rfl) ?_
      refine g_get hC V (ci := 5) uwX5 3 rfl rfl 0 (by decide) w_34 rfl rfl dX4_endsNext_12 ?_
      refine lv_icmp_ge (tgt := 84) hx hb dX4_endsNext_15 (by decide) (fun c_4 => ?_) (fun c_4 => ?_)
      · skip
        have c_4 := b_le (by omega) (by omega) c_4
        refine lv_iconst (v := (nI 1)) hx hb dX4_endsNext_84 (by decide +kernel) ?_
        exact g_zret (Qr := (q_e_endsNext T e0 a0 v e1 e2 em e3 e4 e5 e6 ec ed an am al ao au a1 a2 a3 a4 a5 a6 a7 a8 a9 a10 af4 af5 af6)) hC V ⟨(Nat.le_of_ble_eq_true rfl), (Nat.le_of_ble_eq_true rfl)⟩ (by first | decide +kernel | exact rfl) (.inl ⟨gc_1, gd_2, rfl, rfl⟩) dX4_endsNext_85
      · skip
        have c_4 := b_nle (by omega) (by omega) c_4
        refine lv_aload_n hx hb dX4_endsNext_18 rfl (lv_at hl 1 rfl) ?_
        refine g_get hC V (ci := 4) uwX4 0 rfl rfl 4 (by decide) w_717 rfl rfl dX4_endsNext_19 ?_
        refine lv_iload hx hb dX4_endsNext_22 (lv_at hl 0 rfl) ?_
        refine g_iald hC V 2 rfl (vp_in_nI (by omega) (by omega)) (v := (gd_2 k9)) (congrArg _ (nI_clamp (by omega))) dX4_endsNext_24 ?_
        refine lv_aload_n hx hb dX4_endsNext_25 rfl (lv_at hl 2 rfl) ?_
        refine g_get hC V (ci := 5) uwX5 3 rfl rfl 10 (by decide) w_75 rfl rfl dX4_endsNext_26 ?_
        refine lv_iload hx hb dX4_endsNext_29 (lv_at hl 0 rfl) ?_
        refine g_iald hC V 6 rfl (vp_in_nI (by omega) (by omega)) (v := (af6 k9)) (congrArg _ (nI_clamp (by omega))) dX4_endsNext_31 ?_
        refine lv_icmp_lt (tgt := 39) hx hb dX4_endsNext_32 (by decide) (fun c_5 => ?_) (fun c_5 => ?_)
        · skip
          refine lv_iconst (v := (nI 0)) hx hb dX4_endsNext_39 (by decide +kernel) ?_
          refine lv_istore (lv' := [(5, .int (nI 0)), (4, .int (nI k9)), (0, .ref e0), (1, .ref a0), (2, .long v)]) hx hb dX4_endsNext_40 hl (by decide) rfl (fun ls hl => ?_)
          refine lv_iload hx hb dX4_endsNext_42 (lv_at hl 0 rfl) ?_
          refine lv_if_ne (tgt := 78) hx hb dX4_endsNext_44 (by decide) (fun c => absurd (show (nI 0) = 0 by decide +kernel) c) (fun _ => ?_)
          refine lv_aload_n hx hb dX4_endsNext_47 rfl (lv_at hl 2 rfl) ?_
          refine g_get hC V (ci := 4) uwX4 0 rfl rfl 4 (by decide) w_717 rfl rfl dX4_endsNext_48 ?_
          refine lv_iload hx hb dX4_endsNext_51 (lv_at hl 1 rfl) ?_
          refine g_iald hC V 2 rfl (vp_in_nI (by omega) (by omega)) (v := (gd_2 k9)) (congrArg _ (nI_clamp (by omega))) dX4_endsNext_53 ?_
          refine lv_iconst (v := (nI 1)) hx hb dX4_endsNext_54 (by decide +kernel) ?_
          refine lv_iadd hx hb dX4_endsNext_55 ?_
          refine lv_aload_n hx hb dX4_endsNext_56 rfl (lv_at hl 3 rfl) ?_
          refine g_get hC V (ci := 5) uwX5 3 rfl rfl 10 (by decide) w_75 rfl rfl dX4_endsNext_57 ?_
          refine lv_iload hx hb dX4_endsNext_60 (lv_at hl 1 rfl) ?_
          refine g_iald hC V 6 rfl (vp_in_nI (by omega) (by omega)) (v := (af6 k9)) (congrArg _ (nI_clamp (by omega))) dX4_endsNext_62 ?_
          refine lv_icmp_lt (tgt := 76) hx hb dX4_endsNext_63 (by decide) (fun c_6 => ?_) (fun c_6 => ?_)
          · skip
            refine lv_iconst (v := (nI 0)) hx hb dX4_endsNext_76 (by decide +kernel) ?_
            exact g_zret (Qr := (q_e_endsNext T e0 a0 v e1 e2 em e3 e4 e5 e6 ec ed an am al ao au a1 a2 a3 a4 a5 a6 a7 a8 a9 a10 af4 af5 af6)) hC V ⟨(Nat.le_of_ble_eq_true rfl), (Nat.le_of_ble_eq_true rfl)⟩ (by first | decide +kernel | exact rfl) (.inr ⟨gc_1, gd_2, rfl, rfl⟩) dX4_endsNext_77
          · skip
            refine lv_aload_n hx hb dX4_endsNext_66 rfl (lv_at hl 2 rfl) ?_
            refine lv_aload_n hx hb dX4_endsNext_67 rfl (lv_at hl 3 rfl) ?_
            refine lv_iload hx hb dX4_endsNext_68 (lv_at hl 1 rfl) ?_
            refine g_callV (wr := []) (nA := 2) hC V hl.1 (e_canStrike l D T e0 a0 k9 e1 e2 em e3 e4 e5 e6 gc_1 gd_2 an am al ao au a1 a2 a3 a4 a5 a6 a7 a8 a9 a10 af4 af5 af6 (by first | assumption | omega)) w_767 w_769 w_s28 w_18 w_770 (by decide +kernel) rfl ⟨(Nat.le_of_ble_eq_true rfl), (Nat.le_of_ble_eq_true rfl)⟩ 0 (ci := 4) rfl rfl [0, 1, 2, 3, 4, 5, 6] [] rfl rfl rfl rfl (by decide) (Nat.le_of_ble_eq_true rfl) dX4_endsNext_70 ⟨(Nat.le_of_ble_eq_true rfl), (Nat.le_of_ble_eq_true rfl)⟩ rfl (fun r w1 H locs hQ V => ?_)
            rcases hQ with ⟨rfl, rfl⟩ | ⟨rfl, rfl⟩
            · have V : gW D T A s [(e0, .inr (4, [.ref e1, .ref e2, .int (nI em), .ref e3, .ref e4, .ref e5, .ref e6])), (e3, .inl (T 0, 3, .inl gc_1)), (e4, .inl (T 0, 3, .inl gd_2)), (a0, .inr (5, [.int (nI an), .int am, .int al, .int ao, .int au, .ref a1, .ref a2, .ref a3, .ref a4, .ref a5, .ref a6, .ref a7, .ref a8, .ref a9, .ref a10])), (a4, .inl (T 0, 10, .inl af4)), (a5, .inl (T 0, 10, .inl af5)), (a6, .inl (T 0, 10, .inl af6))] H locs := V
              show W p l e _ s m args below meth c H locs _ _ _ (F0 m 73 ls [.int (nI 1)])
              refine lv_if_ne (tgt := 78) hx hb dX4_endsNext_73 (by decide) (fun _ => ?_) (fun c => absurd (show (nI 1) = 0 from c) (by decide +kernel))
              refine lv_iinc (v := (nI (k9 + 1))) (lv' := [(4, .int (nI (k9 + 1))), (5, .int (nI 0)), (0, .ref e0), (1, .ref a0), (2, .long v)]) hx hb dX4_endsNext_78 hl (k := 1) rfl (nI_1 _) (by decide) rfl (fun ls hl => ?_)
              refine lv_goto (tgt := 9) hx hb dX4_endsNext_81 (by decide) ?_
              exact ih_9 (k9 + 1) (by omega) (by omega) _ _ _ V (lv_sub hl [0, 2, 3, 4] rfl)
            · have V : gW D T A s [(e0, .inr (4, [.ref e1, .ref e2, .int (nI em), .ref e3, .ref e4, .ref e5, .ref e6])), (e3, .inl (T 0, 3, .inl gc_1)), (e4, .inl (T 0, 3, .inl gd_2)), (a0, .inr (5, [.int (nI an), .int am, .int al, .int ao, .int au, .ref a1, .ref a2, .ref a3, .ref a4, .ref a5, .ref a6, .ref a7, .ref a8, .ref a9, .ref a10])), (a4, .inl (T 0, 10, .inl af4)), (a5, .inl (T 0, 10, .inl af5)), (a6, .inl (T 0, 10, .inl af6))] H locs := V
              show W p l e _ s m args below meth c H locs _ _ _ (F0 m 73 ls [.int (nI 0)])
              refine lv_if_ne (tgt := 78) hx hb dX4_endsNext_73 (by decide) (fun c => absurd (show (nI 0) = 0 by decide +kernel) c) (fun _ => ?_)
              refine lv_iconst (v := (nI 0)) hx hb dX4_endsNext_76 (by decide +kernel) ?_
              exact g_zret (Qr := (q_e_endsNext T e0 a0 v e1 e2 em e3 e4 e5 e6 ec ed an am al ao au a1 a2 a3 a4 a5 a6 a7 a8 a9 a10 af4 af5 af6)) hC V ⟨(Nat.le_of_ble_eq_true rfl), (Nat.le_of_ble_eq_true rfl)⟩ (by first | decide +kernel | exact rfl) (.inr ⟨gc_1, gd_2, rfl, rfl⟩) dX4_endsNext_77
        · skip
          refine lv_iconst (v := (nI 1)) hx hb dX4_endsNext_35 (by decide +kernel) ?_
          refine lv_goto (tgt := 40) hx hb dX4_endsNext_36 (by decide) ?_
          refine lv_istore (lv' := [(5, .int (nI 1)), (4, .int (nI k9)), (0, .ref e0), (1, .ref a0), (2, .long v)]) hx hb dX4_endsNext_40 hl (by decide) rfl (fun ls hl => ?_)
          refine lv_iload hx hb dX4_endsNext_42 (lv_at hl 0 rfl) ?_
          refine lv_if_ne (tgt := 78) hx hb dX4_endsNext_44 (by decide) (fun _ => ?_) (fun c => absurd (show (nI 1) = 0 from c) (by decide +kernel))
          refine lv_iinc (v := (nI (k9 + 1))) (lv' := [(4, .int (nI (k9 + 1))), (5, .int (nI 1)), (0, .ref e0), (1, .ref a0), (2, .long v)]) hx hb dX4_endsNext_78 hl (k := 1) rfl (nI_1 _) (by decide) rfl (fun ls hl => ?_)
          refine lv_goto (tgt := 9) hx hb dX4_endsNext_81 (by decide) ?_
          exact ih_9 (k9 + 1) (by omega) (by omega) _ _ _ V (lv_sub hl [0, 2, 3, 4] rfl)
  exact L_3 _ 0 (by omega) (Nat.lt_succ_self _) _ _ _ V (lv_sub hl [0, 1, 2, 3] rfl)

def q_e_behind (T : Nat → ClassId) (e0 : Nat) (a0 : Nat) (sk : Int32) (e1 : Nat) (e2 : Nat) (em : Nat) (e3 : Nat) (e4 : Nat) (e5 : Nat) (e6 : Nat) (ed : Nat → Int32) (ee : Nat → Int32) (an : Nat) (am : Int32) (al : Int32) (ao : Int32) (au : Int32) (a1 : Nat) (a2 : Nat) (a3 : Nat) (a4 : Nat) (a5 : Nat) (a6 : Nat) (a7 : Nat) (a8 : Nat) (a9 : Nat) (a10 : Nat) (af5 : Nat → Int32) (af6 : Nat → Int32) : Option Value → va_W → Prop := fun rr ww => (∃ (z : Int64), rr = some (.long z) ∧ ww = [(e0, .inr (4, [.ref e1, .ref e2, .int (nI em), .ref e3, .ref e4, .ref e5, .ref e6])), (e4, .inl (T 0, 3, .inl ed)), (e5, .inl (T 0, 3, .inl ee)), (a0, .inr (5, [.int (nI an), .int am, .int al, .int ao, .int au, .ref a1, .ref a2, .ref a3, .ref a4, .ref a5, .ref a6, .ref a7, .ref a8, .ref a9, .ref a10])), (a5, .inl (T 0, 10, .inl af5)), (a6, .inl (T 0, 10, .inl af6))])
set_option maxHeartbeats 4000000 in
set_option maxRecDepth 100000 in
theorem e_behind (l : Launch) (D : va_G) (T : Nat → ClassId) (e0 : Nat) (a0 : Nat) (sk : Int32) (e1 : Nat) (e2 : Nat) (em : Nat) (e3 : Nat) (e4 : Nat) (e5 : Nat) (e6 : Nat) (ed : Nat → Int32) (ee : Nat → Int32) (an : Nat) (am : Int32) (al : Int32) (ao : Int32) (au : Int32) (a1 : Nat) (a2 : Nat) (a3 : Nat) (a4 : Nat) (a5 : Nat) (a6 : Nat) (a7 : Nat) (a8 : Nat) (a9 : Nat) (a10 : Nat) (af5 : Nat → Int32) (af6 : Nat → Int32) (h_n : an ≤ 3) : Ct l yX4_behindStrokes cX4_behindStrokes 7 (some .long) 1 0 0 D T [.ref e0, .ref a0, .int sk] [(e0, .inr (4, [.ref e1, .ref e2, .int (nI em), .ref e3, .ref e4, .ref e5, .ref e6])), (e4, .inl (T 0, 3, .inl ed)), (e5, .inl (T 0, 3, .inl ee)), (a0, .inr (5, [.int (nI an), .int am, .int al, .int ao, .int au, .ref a1, .ref a2, .ref a3, .ref a4, .ref a5, .ref a6, .ref a7, .ref a8, .ref a9, .ref a10])), (a5, .inl (T 0, 10, .inl af5)), (a6, .inl (T 0, 10, .inl af6))] (q_e_behind T e0 a0 sk e1 e2 em e3 e4 e5 e6 ed ee an am al ao au a1 a2 a3 a4 a5 a6 a7 a8 a9 a10 af5 af6) := by
  refine Ct.of (cc := cX4_behindStrokes) (maxL := 7) (ret := (some .long)) (by decide) (Nat.le_of_ble_eq_true rfl) ?_
  intro p e s m args below meth c A ls hC hnm V hl
  obtain ⟨hx, hb, hr, hml, hown, hts, hlocks⟩ := id hC
  generalize hH : s.heap = H at V ⊢
  clear hH
  have hl : lv_has ls 7 [(0, .ref e0), (1, .ref a0), (2, .int sk)] := hl
  generalize hlo : ([] : List Loc) = locs at V ⊢
  clear hlo
  refine lv_lconst (v := (nI 0).toInt64) hx hb dX4_behindStrokes_0 (by decide +kernel) ?_
  refine lv_lstore_n (lv' := [(3, .long (nI 0).toInt64), (0, .ref e0), (1, .ref a0), (2, .int sk)]) hx hb dX4_behindStrokes_1 rfl hl (by decide) rfl (fun ls hl => ?_)
  refine lv_iconst (v := (nI 0)) hx hb dX4_behindStrokes_2 (by decide +kernel) ?_
  refine lv_istore (lv' := [(5, .int (nI 0)), (3, .long (nI 0).toInt64), (0, .ref e0), (1, .ref a0), (2, .int sk)]) hx hb dX4_behindStrokes_3 hl (by decide) rfl (fun ls hl => ?_)
  have L_1 : ∀ (fu : Nat) (k5 : Nat) (x5_3 : Int64), k5 ≤ an → an - k5 < fu → ∀ (H : Heap) (locs : List Loc) (ls : Array Slot), gW D T A s [(e0, .inr (4, [.ref e1, .ref e2, .int (nI em), .ref e3, .ref e4, .ref e5, .ref e6])), (e4, .inl (T 0, 3, .inl ed)), (e5, .inl (T 0, 3, .inl ee)), (a0, .inr (5, [.int (nI an), .int am, .int al, .int ao, .int au, .ref a1, .ref a2, .ref a3, .ref a4, .ref a5, .ref a6, .ref a7, .ref a8, .ref a9, .ref a10])), (a5, .inl (T 0, 10, .inl af5)), (a6, .inl (T 0, 10, .inl af6))] H locs → lv_has ls 7 [(5, .int (nI k5)), (3, .long x5_3), (0, .ref e0), (1, .ref a0), (2, .int sk)] → W p l e (rmD 1 0 0) s m args below meth c H locs 0 0 (MQ below (gQ D A (q_e_behind T e0 a0 sk e1 e2 em e3 e4 e5 e6 ed ee an am al ao au a1 a2 a3 a4 a5 a6 a7 a8 a9 a10 af5 af6)) args s 0 0 A) (F0 m 5 ls []) := by
    intro fu_5
    induction fu_5 with
    | zero => intro k5 x5_3 hk5 hmu; exact absurd hmu (Nat.not_lt_zero _)
    | succ fu_5 ih_5 =>
      intro k5 x5_3 hk5 hmu_5 H locs ls V hl
      refine lv_iload hx hb dX4_behindStrokes_5 (lv_at hl 0 rfl) ?_
      refine lv_aload_n hx hb dX4_behindStrokes_7 rfl (lv_at hl 3 rfl) ?_
      refine g_get hC V (ci := 5) uwX5 3 rfl rfl 0 (by decide) w_34 rfl rfl dX4_behindStrokes_8 ?_
      refine lv_icmp_ge (tgt := 109) hx hb dX4_behindStrokes_11 (by decide) (fun c_2 => ?_) (fun c_2 => ?_)
      · skip
        have c_2 := b_le (by omega) (by omega) c_2
        refine lv_lload_n hx hb dX4_behindStrokes_109 rfl (lv_at hl 1 rfl) ?_
        exact g_lret (Qr := (q_e_behind T e0 a0 sk e1 e2 em e3 e4 e5 e6 ed ee an am al ao au a1 a2 a3 a4 a5 a6 a7 a8 a9 a10 af5 af6)) hC V ⟨(Nat.le_of_ble_eq_true rfl), (Nat.le_of_ble_eq_true rfl)⟩ ⟨x5_3, rfl, rfl⟩ dX4_behindStrokes_110
      · skip
        have c_2 := b_nle (by omega) (by omega) c_2
        refine lv_iload_n hx hb dX4_behindStrokes_14 rfl (lv_at hl 4 rfl) ?_
        refine lv_iload hx hb dX4_behindStrokes_15 (lv_at hl 0 rfl) ?_
        refine g_callSNU (nA := 2) (host := RX7) hC V hl.1 (c_isIn l D T sk (nI k5)) w_472 (List.mem_of_getElem? (i := 12) rfl) w_2 w_471 (by decide +kernel) rfl ⟨(Nat.le_of_ble_eq_true rfl), (Nat.le_of_ble_eq_true rfl)⟩ [] rfl rfl (Nat.le_of_ble_eq_true rfl) dX4_behindStrokes_17 ⟨(Nat.le_of_ble_eq_true rfl), (Nat.le_of_ble_eq_true rfl)⟩ rfl (fun r w1 H locs hQ V => ?_)
        rcases hQ with ⟨rfl, rfl⟩ | ⟨rfl, rfl⟩
        · have V : gW D T A s [(e0, .inr (4, [.ref e1, .ref e2, .int (nI em), .ref e3, .ref e4, .ref e5, .ref e6])), (e4, .inl (T 0, 3, .inl ed)), (e5, .inl (T 0, 3, .inl ee)), (a0, .inr (5, [.int (nI an), .int am, .int al, .int ao, .int au, .ref a1, .ref a2, .ref a3, .ref a4, .ref a5, .ref a6, .ref a7, .ref a8, .ref a9, .ref a10])), (a5, .inl (T 0, 10, .inl af5)), (a6, .inl (T 0, 10, .inl af6))] H locs := V _ [] rfl rfl rfl (by decide +kernel) rfl
          show W p l e _ s m args below meth c H locs _ _ _ (F0 m 20 ls [.int (nI 1)])
          refine lv_if_eq (tgt := 35) hx hb dX4_behindStrokes_20 (by decide) (fun c => absurd (show (nI 1) = 0 from c) (by decide +kernel)) (fun _ => ?_)
          refine lv_aload_n hx hb dX4_behindStrokes_23 rfl (lv_at hl 2 rfl) ?_
          refine g_get hC V (ci := 4) uwX4 0 rfl rfl 4 (by decide) w_717 rfl rfl dX4_behindStrokes_24 ?_
          refine lv_iload hx hb dX4_behindStrokes_27 (lv_at hl 0 rfl) ?_
          refine g_iald hC V 1 rfl (vp_in_nI (by omega) (by omega)) (v := (ed k5)) (congrArg _ (nI_clamp (by omega))) dX4_behindStrokes_29 ?_
          refine lv_iconst (v := (nI 1)) hx hb dX4_behindStrokes_30 (by decide +kernel) ?_
          refine lv_iadd hx hb dX4_behindStrokes_31 ?_
          refine lv_goto (tgt := 42) hx hb dX4_behindStrokes_32 (by decide) ?_
          refine lv_istore (lv' := [(6, .int ((ed k5) + (nI 1))), (5, .int (nI k5)), (3, .long x5_3), (0, .ref e0), (1, .ref a0), (2, .int sk)]) hx hb dX4_behindStrokes_42 hl (by decide) rfl (fun ls hl => ?_)
          refine lv_iload hx hb dX4_behindStrokes_44 (lv_at hl 0 rfl) ?_
          refine lv_aload_n hx hb dX4_behindStrokes_46 rfl (lv_at hl 4 rfl) ?_
          refine g_get hC V (ci := 5) uwX5 3 rfl rfl 10 (by decide) w_75 rfl rfl dX4_behindStrokes_47 ?_
          refine lv_iload hx hb dX4_behindStrokes_50 (lv_at hl 1 rfl) ?_
          refine g_iald hC V 5 rfl (vp_in_nI (by omega) (by omega)) (v := (af6 k5)) (congrArg _ (nI_clamp (by omega))) dX4_behindStrokes_52 ?_
          refine lv_icmp_ge (tgt := 86) hx hb dX4_behindStrokes_53 (by decide) (fun c_3 => ?_) (fun c_3 => ?_)
          · skip
            refine lv_lload_n hx hb dX4_behindStrokes_86 rfl (lv_at hl 2 rfl) ?_
            refine lv_iload hx hb dX4_behindStrokes_87 (lv_at hl 1 rfl) ?_
            refine lv_aload_n hx hb dX4_behindStrokes_89 rfl (lv_at hl 3 rfl) ?_
            refine g_get hC V (ci := 4) uwX4 0 rfl rfl 5 (by decide) w_718 rfl rfl dX4_behindStrokes_90 ?_
            refine lv_iload hx hb dX4_behindStrokes_93 (lv_at hl 1 rfl) ?_
            refine g_iald hC V 2 rfl (vp_in_nI (by omega) (by omega)) (v := (ee k5)) (congrArg _ (nI_clamp (by omega))) dX4_behindStrokes_95 ?_
            refine lv_iload hx hb dX4_behindStrokes_96 (lv_at hl 0 rfl) ?_
            refine g_callSU (nA := 3) hC V hl.1 (e_packed l D T (nI k5) (ee k5) ((ed k5) + (nI 1))) w_751 w_752 w_18 w_753 (by decide +kernel) rfl ⟨(Nat.le_of_ble_eq_true rfl), (Nat.le_of_ble_eq_true rfl)⟩ [] rfl rfl (Nat.le_of_ble_eq_true rfl) dX4_behindStrokes_98 ⟨(Nat.le_of_ble_eq_true rfl), (Nat.le_of_ble_eq_true rfl)⟩ rfl (fun r w1 H locs hQ V => ?_)
            obtain ⟨z_4, rfl, rfl⟩ := hQ
            have V : gW D T A s [(e0, .inr (4, [.ref e1, .ref e2, .int (nI em), .ref e3, .ref e4, .ref e5, .ref e6])), (e4, .inl (T 0, 3, .inl ed)), (e5, .inl (T 0, 3, .inl ee)), (a0, .inr (5, [.int (nI an), .int am, .int al, .int ao, .int au, .ref a1, .ref a2, .ref a3, .ref a4, .ref a5, .ref a6, .ref a7, .ref a8, .ref a9, .ref a10])), (a5, .inl (T 0, 10, .inl af5)), (a6, .inl (T 0, 10, .inl af6))] H locs := V _ [] rfl rfl rfl (by decide +kernel) rfl
            show W p l e _ s m args below meth c H locs _ _ _ (F0 m 101 ls [.long z_4, .long x5_3])
            refine lv_lor hx hb dX4_behindStrokes_101 ?_
            refine lv_lstore_n (lv' := [(3, .long (x5_3 ||| z_4)), (6, .int ((ed k5) + (nI 1))), (5, .int (nI k5)), (0, .ref e0), (1, .ref a0), (2, .int sk)]) hx hb dX4_behindStrokes_102 rfl hl (by decide) rfl (fun ls hl => ?_)
            refine lv_iinc (v := (nI (k5 + 1))) (lv' := [(5, .int (nI (k5 + 1))), (3, .long (x5_3 ||| z_4)), (6, .int ((ed k5) + (nI 1))), (0, .ref e0), (1, .ref a0), (2, .int sk)]) hx hb dX4_behindStrokes_103 hl (k := 2) rfl (nI_1 _) (by decide) rfl (fun ls hl => ?_)
            refine lv_goto (tgt := 5) hx hb dX4_behindStrokes_106 (by decide) ?_
            exact ih_5 (k5 + 1) (x5_3 ||| z_4) (by omega) (by omega) _ _ _ V (lv_sub hl [0, 1, 3, 4, 5] rfl)
          · skip
            refine lv_aload_n hx hb dX4_behindStrokes_56 rfl (lv_at hl 3 rfl) ?_
            refine g_get hC V (ci := 4) uwX4 0 rfl rfl 5 (by decide) w_718 rfl rfl dX4_behindStrokes_57 ?_
            refine lv_iload hx hb dX4_behindStrokes_60 (lv_at hl 1 rfl) ?_
            refine g_iald hC V 2 rfl (vp_in_nI (by omega) (by omega)) (v := (ee k5)) (congrArg _ (nI_clamp (by omega))) dX4_behindStrokes_62 ?_
            refine lv_aload_n hx hb dX4_behindStrokes_63 rfl (lv_at hl 4 rfl) ?_
            refine g_get hC V (ci := 5) uwX5 3 rfl rfl 9 (by decide) w_73 rfl rfl dX4_behindStrokes_64 ?_
            refine lv_iload hx hb dX4_behindStrokes_67 (lv_at hl 1 rfl) ?_
            refine g_iald hC V 4 rfl (vp_in_nI (by omega) (by omega)) (v := (af5 k5)) (congrArg _ (nI_clamp (by omega))) dX4_behindStrokes_69 ?_
            refine lv_icmp_le (tgt := 86) hx hb dX4_behindStrokes_70 (by decide) (fun c_5 => ?_) (fun c_5 => ?_)
            · skip
              refine lv_lload_n hx hb dX4_behindStrokes_86 rfl (lv_at hl 2 rfl) ?_
              refine lv_iload hx hb dX4_behindStrokes_87 (lv_at hl 1 rfl) ?_
              refine lv_aload_n hx hb dX4_behindStrokes_89 rfl (lv_at hl 3 rfl) ?_
              refine g_get hC V (ci := 4) uwX4 0 rfl rfl 5 (by decide) w_718 rfl rfl dX4_behindStrokes_90 ?_
              refine lv_iload hx hb dX4_behindStrokes_93 (lv_at hl 1 rfl) ?_
              refine g_iald hC V 2 rfl (vp_in_nI (by omega) (by omega)) (v := (ee k5)) (congrArg _ (nI_clamp (by omega))) dX4_behindStrokes_95 ?_
              refine lv_iload hx hb dX4_behindStrokes_96 (lv_at hl 0 rfl) ?_
              refine g_callSU (nA := 3) hC V hl.1 (e_packed l D T (nI k5) (ee k5) ((ed k5) + (nI 1))) w_751 w_752 w_18 w_753 (by decide +kernel) rfl ⟨(Nat.le_of_ble_eq_true rfl), (Nat.le_of_ble_eq_true rfl)⟩ [] rfl rfl (Nat.le_of_ble_eq_true rfl) dX4_behindStrokes_98 ⟨(Nat.le_of_ble_eq_true rfl), (Nat.le_of_ble_eq_true rfl)⟩ rfl (fun r w1 H locs hQ V => ?_)
              obtain ⟨z_6, rfl, rfl⟩ := hQ
              have V : gW D T A s [(e0, .inr (4, [.ref e1, .ref e2, .int (nI em), .ref e3, .ref e4, .ref e5, .ref e6])), (e4, .inl (T 0, 3, .inl ed)), (e5, .inl (T 0, 3, .inl ee)), (a0, .inr (5, [.int (nI an), .int am, .int al, .int ao, .int au, .ref a1, .ref a2, .ref a3, .ref a4, .ref a5, .ref a6, .ref a7, .ref a8, .ref a9, .ref a10])), (a5, .inl (T 0, 10, .inl af5)), (a6, .inl (T 0, 10, .inl af6))] H locs := V _ [] rfl rfl rfl (by decide +kernel) rfl
              show W p l e _ s m args below meth c H locs _ _ _ (F0 m 101 ls [.long z_6, .long x5_3])
              refine lv_lor hx hb dX4_behindStrokes_101 ?_
              refine lv_lstore_n (lv' := [(3, .long (x5_3 ||| z_6)), (6, .int ((ed k5) + (nI 1))), (5, .int (nI k5)), (0, .ref e0), (1, .ref a0), (2, .int sk)]) hx hb dX4_behindStrokes_102 rfl hl (by decide) rfl (fun ls hl => ?_)
              refine lv_iinc (v := (nI (k5 + 1))) (lv' := [(5, .int (nI (k5 + 1))), (3, .long (x5_3 ||| z_6)), (6, .int ((ed k5) + (nI 1))), (0, .ref e0), (1, .ref a0), (2, .int sk)]) hx hb dX4_behindStrokes_103 hl (k := 2) rfl (nI_1 _) (by decide) rfl (fun ls hl => ?_)
              refine lv_goto (tgt := 5) hx hb dX4_behindStrokes_106 (by decide) ?_
              exact ih_5 (k5 + 1) (x5_3 ||| z_6) (by omega) (by omega) _ _ _ V (lv_sub hl [0, 1, 3, 4, 5] rfl)
            · skip
              refine lv_iconst (v := (nI 0)) hx hb dX4_behindStrokes_73 (by decide +kernel) ?_
              refine lv_iload hx hb dX4_behindStrokes_74 (lv_at hl 0 rfl) ?_
              refine lv_aload_n hx hb dX4_behindStrokes_76 rfl (lv_at hl 4 rfl) ?_
              refine g_get hC V (ci := 5) uwX5 3 rfl rfl 3 (by decide) w_47 rfl rfl dX4_behindStrokes_77 ?_
              refine lv_isub hx hb dX4_behindStrokes_80 ?_
              refine va_mmax hx hb (hml.trans hl.1.symm) hown (hts _ w_782) (hts _ w_392) (hts _ w_10) (hts _ w_393) (Nat.le_of_ble_eq_true rfl) (Nat.le_of_ble_eq_true rfl) (Nat.le_of_ble_eq_true rfl) (Nat.le_of_ble_eq_true rfl) dX4_behindStrokes_81 ?_
              refine lv_topi (fun x_7 ex_7 => ?_)
              refine lv_istore (lv' := [(6, .int x_7), (5, .int (nI k5)), (3, .long x5_3), (0, .ref e0), (1, .ref a0), (2, .int sk)]) hx hb dX4_behindStrokes_84 hl (by decide) rfl (fun ls hl => ?_)
              refine lv_lload_n hx hb dX4_behindStrokes_86 rfl (lv_at hl 2 rfl) ?_
              refine lv_iload hx hb dX4_behindStrokes_87 (lv_at hl 1 rfl) ?_
              refine lv_aload_n hx hb dX4_behindStrokes_89 rfl (lv_at hl 3 rfl) ?_
              refine g_get hC V (ci := 4) uwX4 0 rfl rfl 5 (by decide) w_718 rfl rfl dX4_behindStrokes_90 ?_
              refine lv_iload hx hb dX4_behindStrokes_93 (lv_at hl 1 rfl) ?_
              refine g_iald hC V 2 rfl (vp_in_nI (by omega) (by omega)) (v := (ee k5)) (congrArg _ (nI_clamp (by omega))) dX4_behindStrokes_95 ?_
              refine lv_iload hx hb dX4_behindStrokes_96 (lv_at hl 0 rfl) ?_
              refine g_callSU (nA := 3) hC V hl.1 (e_packed l D T (nI k5) (ee k5) x_7) w_751 w_752 w_18 w_753 (by decide +kernel) rfl ⟨(Nat.le_of_ble_eq_true rfl), (Nat.le_of_ble_eq_true rfl)⟩ [] rfl rfl (Nat.le_of_ble_eq_true rfl) dX4_behindStrokes_98 ⟨(Nat.le_of_ble_eq_true rfl), (Nat.le_of_ble_eq_true rfl)⟩ rfl (fun r w1 H locs hQ V => ?_)
              obtain ⟨z_8, rfl, rfl⟩ := hQ
              have V : gW D T A s [(e0, .inr (4, [.ref e1, .ref e2, .int (nI em), .ref e3, .ref e4, .ref e5, .ref e6])), (e4, .inl (T 0, 3, .inl ed)), (e5, .inl (T 0, 3, .inl ee)), (a0, .inr (5, [.int (nI an), .int am, .int al, .int ao, .int au, .ref a1, .ref a2, .ref a3, .ref a4, .ref a5, .ref a6, .ref a7, .ref a8, .ref a9, .ref a10])), (a5, .inl (T 0, 10, .inl af5)), (a6, .inl (T 0, 10, .inl af6))] H locs := V _ [] rfl rfl rfl (by decide +kernel) rfl
              show W p l e _ s m args below meth c H locs _ _ _ (F0 m 101 ls [.long z_8, .long x5_3])
              refine lv_lor hx hb dX4_behindStrokes_101 ?_
              refine lv_lstore_n (lv' := [(3, .long (x5_3 ||| z_8)), (6, .int x_7), (5, .int (nI k5)), (0, .ref e0), (1, .ref a0), (2, .int sk)]) hx hb dX4_behindStrokes_102 rfl hl (by decide) rfl (fun ls hl => ?_)
              refine lv_iinc (v := (nI (k5 + 1))) (lv' := [(5, .int (nI (k5 + 1))), (3, .long (x5_3 ||| z_8)), (6, .int x_7), (0, .ref e0), (1, .ref a0), (2, .int sk)]) hx hb dX4_behindStrokes_103 hl (k := 2) rfl (nI_1 _) (by decide) rfl (fun ls hl => ?_)
              refine lv_goto (tgt := 5) hx hb dX4_behindStrokes_106 (by decide) ?_
              exact ih_5 (k5 + 1) (x5_3 ||| z_8) (by omega) (by omega) _ _ _ V (lv_sub hl [0, 1, 3, 4, 5] rfl)
        · have V : gW D T A s [(e0, .inr (4, [.ref e1, .ref e2, .int (nI em), .ref e3, .ref e4, .ref e5, .ref e6])), (e4, .inl (T 0, 3, .inl ed)), (e5, .inl (T 0, 3, .inl ee)), (a0, .inr (5, [.int (nI an), .int am, .int al, .int ao, .int au, .ref a1, .ref a2, .ref a3, .ref a4, .ref a5, .ref a6, .ref a7, .ref a8, .ref a9, .ref a10])), (a5, .inl (T 0, 10, .inl af5)), (a6, .inl (T 0, 10, .inl af6))] H locs := V _ [] rfl rfl rfl (by decide +kernel) rfl
          show W p l e _ s m args below meth c H locs _ _ _ (F0 m 20 ls [.int (nI 0)])
          refine lv_if_eq (tgt := 35) hx hb dX4_behindStrokes_20 (by decide) (fun _ => ?_) (fun c => absurd (show (nI 0) = 0 by decide +kernel) c)
          refine lv_aload_n hx hb dX4_behindStrokes_35 rfl (lv_at hl 2 rfl) ?_
          refine g_get hC V (ci := 4) uwX4 0 rfl rfl 4 (by decide) w_717 rfl rfl dX4_behindStrokes_36 ?_
          refine lv_iload hx hb dX4_behindStrokes_39 (lv_at hl 0 rfl) ?_
          refine g_iald hC V 1 rfl (vp_in_nI (by omega) (by omega)) (v := (ed k5)) (congrArg _ (nI_clamp (by omega))) dX4_behindStrokes_41 ?_
          refine lv_istore (lv' := [(6, .int (ed k5)), (5, .int (nI k5)), (3, .long x5_3), (0, .ref e0), (1, .ref a0), (2, .int sk)]) hx hb dX4_behindStrokes_42 hl (by decide) rfl (fun ls hl => ?_)
          refine lv_iload hx hb dX4_behindStrokes_44 (lv_at hl 0 rfl) ?_
          refine lv_aload_n hx hb dX4_behindStrokes_46 rfl (lv_at hl 4 rfl) ?_
          refine g_get hC V (ci := 5) uwX5 3 rfl rfl 10 (by decide) w_75 rfl rfl dX4_behindStrokes_47 ?_
          refine lv_iload hx hb dX4_behindStrokes_50 (lv_at hl 1 rfl) ?_
          refine g_iald hC V 5 rfl (vp_in_nI (by omega) (by omega)) (v := (af6 k5)) (congrArg _ (nI_clamp (by omega))) dX4_behindStrokes_52 ?_
          refine lv_icmp_ge (tgt := 86) hx hb dX4_behindStrokes_53 (by decide) (fun c_9 => ?_) (fun c_9 => ?_)
          · skip
            refine lv_lload_n hx hb dX4_behindStrokes_86 rfl (lv_at hl 2 rfl) ?_
            refine lv_iload hx hb dX4_behindStrokes_87 (lv_at hl 1 rfl) ?_
            refine lv_aload_n hx hb dX4_behindStrokes_89 rfl (lv_at hl 3 rfl) ?_
            refine g_get hC V (ci := 4) uwX4 0 rfl rfl 5 (by decide) w_718 rfl rfl dX4_behindStrokes_90 ?_
            refine lv_iload hx hb dX4_behindStrokes_93 (lv_at hl 1 rfl) ?_
            refine g_iald hC V 2 rfl (vp_in_nI (by omega) (by omega)) (v := (ee k5)) (congrArg _ (nI_clamp (by omega))) dX4_behindStrokes_95 ?_
            refine lv_iload hx hb dX4_behindStrokes_96 (lv_at hl 0 rfl) ?_
            refine g_callSU (nA := 3) hC V hl.1 (e_packed l D T (nI k5) (ee k5) (ed k5)) w_751 w_752 w_18 w_753 (by decide +kernel) rfl ⟨(Nat.le_of_ble_eq_true rfl), (Nat.le_of_ble_eq_true rfl)⟩ [] rfl rfl (Nat.le_of_ble_eq_true rfl) dX4_behindStrokes_98 ⟨(Nat.le_of_ble_eq_true rfl), (Nat.le_of_ble_eq_true rfl)⟩ rfl (fun r w1 H locs hQ V => ?_)
            obtain ⟨z_10, rfl, rfl⟩ := hQ
            have V : gW D T A s [(e0, .inr (4, [.ref e1, .ref e2, .int (nI em), .ref e3, .ref e4, .ref e5, .ref e6])), (e4, .inl (T 0, 3, .inl ed)), (e5, .inl (T 0, 3, .inl ee)), (a0, .inr (5, [.int (nI an), .int am, .int al, .int ao, .int au, .ref a1, .ref a2, .ref a3, .ref a4, .ref a5, .ref a6, .ref a7, .ref a8, .ref a9, .ref a10])), (a5, .inl (T 0, 10, .inl af5)), (a6, .inl (T 0, 10, .inl af6))] H locs := V _ [] rfl rfl rfl (by decide +kernel) rfl
            show W p l e _ s m args below meth c H locs _ _ _ (F0 m 101 ls [.long z_10, .long x5_3])
            refine lv_lor hx hb dX4_behindStrokes_101 ?_
            refine lv_lstore_n (lv' := [(3, .long (x5_3 ||| z_10)), (6, .int (ed k5)), (5, .int (nI k5)), (0, .ref e0), (1, .ref a0), (2, .int sk)]) hx hb dX4_behindStrokes_102 rfl hl (by decide) rfl (fun ls hl => ?_)
            refine lv_iinc (v := (nI (k5 + 1))) (lv' := [(5, .int (nI (k5 + 1))), (3, .long (x5_3 ||| z_10)), (6, .int (ed k5)), (0, .ref e0), (1, .ref a0), (2, .int sk)]) hx hb dX4_behindStrokes_103 hl (k := 2) rfl (nI_1 _) (by decide) rfl (fun ls hl => ?_)
            refine lv_goto (tgt := 5) hx hb dX4_behindStrokes_106 (by decide) ?_
            exact ih_5 (k5 + 1) (x5_3 ||| z_10) (by omega) (by omega) _ _ _ V (lv_sub hl [0, 1, 3, 4, 5] rfl)
          · skip
            refine lv_aload_n hx hb dX4_behindStrokes_56 rfl (lv_at hl 3 rfl) ?_
            refine g_get hC V (ci := 4) uwX4 0 rfl rfl 5 (by decide) w_718 rfl rfl dX4_behindStrokes_57 ?_
            refine lv_iload hx hb dX4_behindStrokes_60 (lv_at hl 1 rfl) ?_
            refine g_iald hC V 2 rfl (vp_in_nI (by omega) (by omega)) (v := (ee k5)) (congrArg _ (nI_clamp (by omega))) dX4_behindStrokes_62 ?_
            refine lv_aload_n hx hb dX4_behindStrokes_63 rfl (lv_at hl 4 rfl) ?_
            refine g_get hC V (ci := 5) uwX5 3 rfl rfl 9 (by decide) w_73 rfl rfl dX4_behindStrokes_64 ?_
            refine lv_iload hx hb dX4_behindStrokes_67 (lv_at hl 1 rfl) ?_
            refine g_iald hC V 4 rfl (vp_in_nI (by omega) (by omega)) (v := (af5 k5)) (congrArg _ (nI_clamp (by omega))) dX4_behindStrokes_69 ?_
            refine lv_icmp_le (tgt := 86) hx hb dX4_behindStrokes_70 (by decide) (fun c_11 => ?_) (fun c_11 => ?_)
            · skip
              refine lv_lload_n hx hb dX4_behindStrokes_86 rfl (lv_at hl 2 rfl) ?_
              refine lv_iload hx hb dX4_behindStrokes_87 (lv_at hl 1 rfl) ?_
              refine lv_aload_n hx hb dX4_behindStrokes_89 rfl (lv_at hl 3 rfl) ?_
              refine g_get hC V (ci := 4) uwX4 0 rfl rfl 5 (by decide) w_718 rfl rfl dX4_behindStrokes_90 ?_
              refine lv_iload hx hb dX4_behindStrokes_93 (lv_at hl 1 rfl) ?_
              refine g_iald hC V 2 rfl (vp_in_nI (by omega) (by omega)) (v := (ee k5)) (congrArg _ (nI_clamp (by omega))) dX4_behindStrokes_95 ?_
              refine lv_iload hx hb dX4_behindStrokes_96 (lv_at hl 0 rfl) ?_
              refine g_callSU (nA := 3) hC V hl.1 (e_packed l D T (nI k5) (ee k5) (ed k5)) w_751 w_752 w_18 w_753 (by decide +kernel) rfl ⟨(Nat.le_of_ble_eq_true rfl), (Nat.le_of_ble_eq_true rfl)⟩ [] rfl rfl (Nat.le_of_ble_eq_true rfl) dX4_behindStrokes_98 ⟨(Nat.le_of_ble_eq_true rfl), (Nat.le_of_ble_eq_true rfl)⟩ rfl (fun r w1 H locs hQ V => ?_)
              obtain ⟨z_12, rfl, rfl⟩ := hQ
              have V : gW D T A s [(e0, .inr (4, [.ref e1, .ref e2, .int (nI em), .ref e3, .ref e4, .ref e5, .ref e6])), (e4, .inl (T 0, 3, .inl ed)), (e5, .inl (T 0, 3, .inl ee)), (a0, .inr (5, [.int (nI an), .int am, .int al, .int ao, .int au, .ref a1, .ref a2, .ref a3, .ref a4, .ref a5, .ref a6, .ref a7, .ref a8, .ref a9, .ref a10])), (a5, .inl (T 0, 10, .inl af5)), (a6, .inl (T 0, 10, .inl af6))] H locs := V _ [] rfl rfl rfl (by decide +kernel) rfl
              show W p l e _ s m args below meth c H locs _ _ _ (F0 m 101 ls [.long z_12, .long x5_3])
              refine lv_lor hx hb dX4_behindStrokes_101 ?_
              refine lv_lstore_n (lv' := [(3, .long (x5_3 ||| z_12)), (6, .int (ed k5)), (5, .int (nI k5)), (0, .ref e0), (1, .ref a0), (2, .int sk)]) hx hb dX4_behindStrokes_102 rfl hl (by decide) rfl (fun ls hl => ?_)
              refine lv_iinc (v := (nI (k5 + 1))) (lv' := [(5, .int (nI (k5 + 1))), (3, .long (x5_3 ||| z_12)), (6, .int (ed k5)), (0, .ref e0), (1, .ref a0), (2, .int sk)]) hx hb dX4_behindStrokes_103 hl (k := 2) rfl (nI_1 _) (by decide) rfl (fun ls hl => ?_)
              refine lv_goto (tgt := 5) hx hb dX4_behindStrokes_106 (by decide) ?_
              exact ih_5 (k5 + 1) (x5_3 ||| z_12) (by omega) (by omega) _ _ _ V (lv_sub hl [0, 1, 3, 4, 5] rfl)
            · skip
              refine lv_iconst (v := (nI 0)) hx hb dX4_behindStrokes_73 (by decide +kernel) ?_
              refine lv_iload hx hb dX4_behindStrokes_74 (lv_at hl 0 rfl) ?_
              refine lv_aload_n hx hb dX4_behindStrokes_76 rfl (lv_at hl 4 rfl) ?_
              refine g_get hC V (ci := 5) uwX5 3 rfl rfl 3 (by decide) w_47 rfl rfl dX4_behindStrokes_77 ?_
              refine lv_isub hx hb dX4_behindStrokes_80 ?_
              refine va_mmax hx hb (hml.trans hl.1.symm) hown (hts _ w_782) (hts _ w_392) (hts _ w_10) (hts _ w_393) (Nat.le_of_ble_eq_true rfl) (Nat.le_of_ble_eq_true rfl) (Nat.le_of_ble_eq_true rfl) (Nat.le_of_ble_eq_true rfl) dX4_behindStrokes_81 ?_
              refine lv_istore (lv' := [(6, .int (if (nI 0) < ((ed k5) - ao) then ((ed k5) - ao) else (nI 0))), (5, .int (nI k5)), (3, .long x5_3), (0, .ref e0), (1, .ref a0), (2, .int sk)]) hx hb dX4_behindStrokes_84 hl (by decide) rfl (fun ls hl => ?_)
              refine lv_lload_n hx hb dX4_behindStrokes_86 rfl (lv_at hl 2 rfl) ?_
              refine lv_iload hx hb dX4_behindStrokes_87 (lv_at hl 1 rfl) ?_
              refine lv_aload_n hx hb dX4_behindStrokes_89 rfl (lv_at hl 3 rfl) ?_
              refine g_get hC V (ci := 4) uwX4 0 rfl rfl 5 (by decide) w_718 rfl rfl dX4_behindStrokes_90 ?_
              refine lv_iload hx hb dX4_behindStrokes_93 (lv_at hl 1 rfl) ?_
              refine g_iald hC V 2 rfl (vp_in_nI (by omega) (by omega)) (v := (ee k5)) (congrArg _ (nI_clamp (by omega))) dX4_behindStrokes_95 ?_
              refine lv_iload hx hb dX4_behindStrokes_96 (lv_at hl 0 rfl) ?_
              refine g_callSU (nA := 3) hC V hl.1 (e_packed l D T (nI k5) (ee k5) (if (nI 0) < ((ed k5) - ao) then ((ed k5) - ao) else (nI 0))) w_751 w_752 w_18 w_753 (by decide +kernel) rfl ⟨(Nat.le_of_ble_eq_true rfl), (Nat.le_of_ble_eq_true rfl)⟩ [] rfl rfl (Nat.le_of_ble_eq_true rfl) dX4_behindStrokes_98 ⟨(Nat.le_of_ble_eq_true rfl), (Nat.le_of_ble_eq_true rfl)⟩ rfl (fun r w1 H locs hQ V => ?_)
              obtain ⟨z_13, rfl, rfl⟩ := hQ
              have V : gW D T A s [(e0, .inr (4, [.ref e1, .ref e2, .int (nI em), .ref e3, .ref e4, .ref e5, .ref e6])), (e4, .inl (T 0, 3, .inl ed)), (e5, .inl (T 0, 3, .inl ee)), (a0, .inr (5, [.int (nI an), .int am, .int al, .int ao, .int au, .ref a1, .ref a2, .ref a3, .ref a4, .ref a5, .ref a6, .ref a7, .ref a8, .ref a9, .ref a10])), (a5, .inl (T 0, 10, .inl af5)), (a6, .inl (T 0, 10, .inl af6))] H locs := V _ [] rfl rfl rfl (by decide +kernel) rfl
              show W p l e _ s m args below meth c H locs _ _ _ (F0 m 101 ls [.long z_13, .long x5_3])
              refine lv_lor hx hb dX4_behindStrokes_101 ?_
              refine lv_lstore_n (lv' := [(3, .long (x5_3 ||| z_13)), (6, .int (if (nI 0) < ((ed k5) - ao) then ((ed k5) - ao) else (nI 0))), (5, .int (nI k5)), (0, .ref e0), (1, .ref a0), (2, .int sk)]) hx hb dX4_behindStrokes_102 rfl hl (by decide) rfl (fun ls hl => ?_)
              refine lv_iinc (v := (nI (k5 + 1))) (lv' := [(5, .int (nI (k5 + 1))), (3, .long (x5_3 ||| z_13)), (6, .int (if (nI 0) < ((ed k5) - ao) then ((ed k5) - ao) else (nI 0))), (0, .ref e0), (1, .ref a0), (2, .int sk)]) hx hb dX4_behindStrokes_103 hl (k := 2) rfl (nI_1 _) (by decide) rfl (fun ls hl => ?_)
              refine lv_goto (tgt := 5) hx hb dX4_behindStrokes_106 (by decide) ?_
              exact ih_5 (k5 + 1) (x5_3 ||| z_13) (by omega) (by omega) _ _ _ V (lv_sub hl [0, 1, 3, 4, 5] rfl)
  exact L_1 _ 0 ((nI 0).toInt64) (by omega) (Nat.lt_succ_self _) _ _ _ V (lv_sub hl [0, 1, 2, 3, 4] rfl)

def q_e_goOn (T : Nat → ClassId) (e0 : Nat) (a0 : Nat) (v : Int64) (e1 : Nat) (e2 : Nat) (em : Nat) (e3 : Nat) (e4 : Nat) (e5 : Nat) (e6 : Nat) (ea : Nat → Int64) (eb : Nat → Int32) (ec : Nat → Int32) (ed : Nat → Int32) (ee : Nat → Int32) (ef : Nat → Int32) (an : Nat) (am : Int32) (al : Int32) (ao : Int32) (au : Int32) (a1 : Nat) (a2 : Nat) (a3 : Nat) (a4 : Nat) (a5 : Nat) (a6 : Nat) (a7 : Nat) (a8 : Nat) (a9 : Nat) (a10 : Nat) (af4 : Nat → Int32) (af5 : Nat → Int32) (af6 : Nat → Int32) : Option Value → va_W → Prop := fun rr ww => (∃ (em2 : Nat) (g1 : Nat → Int64) (g2 : Nat → Int32) (gc : Nat → Int32) (gd : Nat → Int32) (ge : Nat → Int32), rr = none ∧ ww = [(e0, .inr (4, [.ref e1, .ref e2, .int (nI em2), .ref e3, .ref e4, .ref e5, .ref e6])), (e1, .inl (T 1, 3001, .inr (.inl g1))), (e2, .inl (T 0, 8192, .inl g2)), (e3, .inl (T 0, 3, .inl gc)), (e4, .inl (T 0, 3, .inl gd)), (e5, .inl (T 0, 3, .inl ge)), (e6, .inl (T 0, 24, .inl ef)), (a0, .inr (5, [.int (nI an), .int am, .int al, .int ao, .int au, .ref a1, .ref a2, .ref a3, .ref a4, .ref a5, .ref a6, .ref a7, .ref a8, .ref a9, .ref a10])), (a4, .inl (T 0, 10, .inl af4)), (a5, .inl (T 0, 10, .inl af5)), (a6, .inl (T 0, 10, .inl af6))] ∧ em ≤ em2 ∧ em2 ≤ 3001 ∧ (∀ i, i < 8192 → bd (g2 i) (em2 + 1)))
set_option maxHeartbeats 4000000 in
set_option maxRecDepth 100000 in
theorem e_goOn (l : Launch) (D : va_G) (T : Nat → ClassId) (e0 : Nat) (a0 : Nat) (v : Int64) (e1 : Nat) (e2 : Nat) (em : Nat) (e3 : Nat) (e4 : Nat) (e5 : Nat) (e6 : Nat) (ea : Nat → Int64) (eb : Nat → Int32) (ec : Nat → Int32) (ed : Nat → Int32) (ee : Nat → Int32) (ef : Nat → Int32) (an : Nat) (am : Int32) (al : Int32) (ao : Int32) (au : Int32) (a1 : Nat) (a2 : Nat) (a3 : Nat) (a4 : Nat) (a5 : Nat) (a6 : Nat) (a7 : Nat) (a8 : Nat) (a9 : Nat) (a10 : Nat) (af4 : Nat → Int32) (af5 : Nat → Int32) (af6 : Nat → Int32) (h_m : em ≤ 3001) (h_sl : ∀ i, i < 8192 → bd (eb i) (em + 1)) (h_n : an ≤ 3) : Ct l yX4_goOnFrom cX4_goOnFrom 7 none 2 0 0 D T [.ref e0, .ref a0, .long v] [(e0, .inr (4, [.ref e1, .ref e2, .int (nI em), .ref e3, .ref e4, .ref e5, .ref e6])), (e1, .inl (T 1, 3001, .inr (.inl ea))), (e2, .inl (T 0, 8192, .inl eb)), (e3, .inl (T 0, 3, .inl ec)), (e4, .inl (T 0, 3, .inl ed)), (e5, .inl (T 0, 3, .inl ee)), (e6, .inl (T 0, 24, .inl ef)), (a0, .inr (5, [.int (nI an), .int am, .int al, .int ao, .int au, .ref a1, .ref a2, .ref a3, .ref a4, .ref a5, .ref a6, .ref a7, .ref a8, .ref a9, .ref a10])), (a4, .inl (T 0, 10, .inl af4)), (a5, .inl (T 0, 10, .inl af5)), (a6, .inl (T 0, 10, .inl af6))] (q_e_goOn T e0 a0 v e1 e2 em e3 e4 e5 e6 ea eb ec ed ee ef an am al ao au a1 a2 a3 a4 a5 a6 a7 a8 a9 a10 af4 af5 af6) := by
  refine Ct.of (cc := cX4_goOnFrom) (maxL := 7) (ret := none) (by decide) (Nat.le_of_ble_eq_true rfl) ?_
  intro p e s m args below meth c A ls hC hnm V hl
  obtain ⟨hx, hb, hr, hml, hown, hts, hlocks⟩ := id hC
  generalize hH : s.heap = H at V ⊢
  clear hH
  have hl : lv_has ls 7 [(0, .ref e0), (1, .ref a0), (2, .long v)] := hl
  generalize hlo : ([] : List Loc) = locs at V ⊢
  clear hlo
  have hpw := pw3 h_n
  refine lv_aload_n hx hb dX4_goOnFrom_0 rfl (lv_at hl 0 rfl) ?_
  refine lv_aload_n hx hb dX4_goOnFrom_1 rfl (lv_at hl 1 rfl) ?_
  refine lv_lload_n hx hb dX4_goOnFrom_2 rfl (lv_at hl 2 rfl) ?_
  refine g_callVU (nA := 2) hC V hl.1 (e_unpack l D T e0 a0 v e1 e2 em e3 e4 e5 e6 ec ed an am al ao au a1 a2 a3 a4 a5 a6 a7 a8 a9 a10 (by first | assumption | omega)) w_763 w_765 w_s27 w_18 w_766 (by decide +kernel) rfl ⟨(Nat.le_of_ble_eq_true rfl), (Nat.le_of_ble_eq_true rfl)⟩ 0 (ci := 4) rfl rfl [0, 3, 4, 7] rfl rfl (Nat.le_of_ble_eq_true rfl) dX4_goOnFrom_3 ⟨(Nat.le_of_ble_eq_true rfl), (Nat.le_of_ble_eq_true rfl)⟩ rfl (fun r w1 H locs hQ V => ?_)
  obtain ⟨gc_1, gd_2, rfl, rfl⟩ := hQ
  have V : gW D T A s [(e0, .inr (4, [.ref e1, .ref e2, .int (nI em), .ref e3, .ref e4, .ref e5, .ref e6])), (e1, .inl (T 1, 3001, .inr (.inl ea))), (e2, .inl (T 0, 8192, .inl eb)), (e3, .inl (T 0, 3, .inl gc_1)), (e4, .inl (T 0, 3, .inl gd_2)), (e5, .inl (T 0, 3, .inl ee)), (e6, .inl (T 0, 24, .inl ef)), (a0, .inr (5, [.int (nI an), .int am, .int al, .int ao, .int au, .ref a1, .ref a2, .ref a3, .ref a4, .ref a5, .ref a6, .ref a7, .ref a8, .ref a9, .ref a10])), (a4, .inl (T 0, 10, .inl af4)), (a5, .inl (T 0, 10, .inl af5)), (a6, .inl (T 0, 10, .inl af6))] H locs := V _ [0, 2, 0, 2] rfl rfl rfl (by decide +kernel) rfl
  show W p l e _ s m args below meth c H locs _ _ _ (F0 m 6 ls [])
  refine lv_iconst (v := (nI 0)) hx hb dX4_goOnFrom_6 (by decide +kernel) ?_
  refine lv_istore (lv' := [(4, .int (nI 0)), (0, .ref e0), (1, .ref a0), (2, .long v)]) hx hb dX4_goOnFrom_7 hl (by decide) rfl (fun ls hl => ?_)
  refine lv_iconst (v := (nI 0)) hx hb dX4_goOnFrom_9 (by decide +kernel) ?_
  refine lv_istore (lv' := [(5, .int (nI 0)), (4, .int (nI 0)), (0, .ref e0), (1, .ref a0), (2, .long v)]) hx hb dX4_goOnFrom_10 hl (by decide) rfl (fun ls hl => ?_)
  have L_3 : ∀ (fu : Nat) (k12 : Nat) (ab : Nat), k12 ≤ an → ab < 8 → an - k12 < fu → ∀ (H : Heap) (locs : List Loc) (ls : Array Slot), gW D T A s [(e0, .inr (4, [.ref e1, .ref e2, .int (nI em), .ref e3, .ref e4, .ref e5, .ref e6])), (e1, .inl (T 1, 3001, .inr (.inl ea))), (e2, .inl (T 0, 8192, .inl eb)), (e3, .inl (T 0, 3, .inl gc_1)), (e4, .inl (T 0, 3, .inl gd_2)), (e5, .inl (T 0, 3, .inl ee)), (e6, .inl (T 0, 24, .inl ef)), (a0, .inr (5, [.int (nI an), .int am, .int al, .int ao, .int au, .ref a1, .ref a2, .ref a3, .ref a4, .ref a5, .ref a6, .ref a7, .ref a8, .ref a9, .ref a10])), (a4, .inl (T 0, 10, .inl af4)), (a5, .inl (T 0, 10, .inl af5)), (a6, .inl (T 0, 10, .inl af6))] H locs → lv_has ls 7 [(5, .int (nI k12)), (4, .int (nI ab)), (0, .ref e0), (1, .ref a0), (2, .long v)] → W p l e (rmD 2 0 0) s m args below meth c H locs 0 0 (MQ below (gQ D A (q_e_goOn T e0 a0 v e1 e2 em e3 e4 e5 e6 ea eb ec ed ee ef an am al ao au a1 a2 a3 a4 a5 a6 a7 a8 a9 a10 af4 af5 af6)) args s 0 0 A) (F0 m 12 ls []) := by
    intro fu_12
    induction fu_12 with
    | zero => intro k12 ab hk12 hab hmu; exact absurd hmu (Nat.not_lt_zero _)
    | succ fu_12 ih_12 =>
      intro k12 ab hk12 hab hmu_12 H locs ls V hl
      refine lv_iload hx hb dX4_goOnFrom_12 (lv_at hl 0 rfl) ?_
      refine lv_aload_n hx hb dX4_goOnFrom_14 rfl (lv_at hl 3 rfl) ?_
      refine g_get hC V (ci := 5) uwX5 7 rfl rfl 0 (by decide) w_34 rfl rfl dX4_goOnFrom_15 ?_
      refine lv_icmp_ge (tgt := 50) hx hb dX4_goOnFrom_18 (by decide) (fun c_4 => ?_) (fun c_4 => ?_)
      · skip
        have c_4 := b_le (by omega) (by omega) c_4
        refine lv_iconst (v := (nI 0)) hx hb dX4_goOnFrom_50 (by decide +kernel) ?_
        refine lv_istore (lv' := [(5, .int (nI 0)), (4, .int (nI ab)), (0, .ref e0), (1, .ref a0), (2, .long v)]) hx hb dX4_goOnFrom_51 hl (by decide) rfl (fun ls hl => ?_)
        have L_5 : ∀ (fu : Nat) (k53 : Nat) (mt : Nat) (fa : Nat → Int64) (fb : Nat → Int32) (fe : Nat → Int32), k53 ≤ 2 ^ an → em ≤ mt → mt ≤ 3001 → (∀ i, i < 8192 → bd (fb i) (mt + 1)) → 2 ^ an - k53 < fu → ∀ (H : Heap) (locs : List Loc) (ls : Array Slot), gW D T A s [(e0, .inr (4, [.ref e1, .ref e2, .int (nI mt), .ref e3, .ref e4, .ref e5, .ref e6])), (e1, .inl (T 1, 3001, .inr (.inl fa))), (e2, .inl (T 0, 8192, .inl fb)), (e3, .inl (T 0, 3, .inl gc_1)), (e4, .inl (T 0, 3, .inl gd_2)), (e5, .inl (T 0, 3, .inl fe)), (e6, .inl (T 0, 24, .inl ef)), (a0, .inr (5, [.int (nI an), .int am, .int al, .int ao, .int au, .ref a1, .ref a2, .ref a3, .ref a4, .ref a5, .ref a6, .ref a7, .ref a8, .ref a9, .ref a10])), (a4, .inl (T 0, 10, .inl af4)), (a5, .inl (T 0, 10, .inl af5)), (a6, .inl (T 0, 10, .inl af6))] H locs → lv_has ls 7 [(5, .int (nI k53)), (4, .int (nI ab)), (0, .ref e0), (1, .ref a0), (2, .long v)] → W p l e (rmD 2 0 0) s m args below meth c H locs 0 0 (MQ below (gQ D A (q_e_goOn T e0 a0 v e1 e2 em e3 e4 e5 e6 ea eb ec ed ee ef an am al ao au a1 a2 a3 a4 a5 a6 a7 a8 a9 a10 af4 af5 af6)) args s 0 0 A) (F0 m 53 ls []) := by
          intro fu_53
          induction fu_53 with
          | zero => intro k53 mt fa fb fe hk53 hm1 hm2 hm3 hmu; exact absurd hmu (Nat.not_lt_zero _)
          | succ fu_53 ih_53 =>
            intro k53 mt fa fb fe hk53 hm1 hm2 hm3 hmu_53 H locs ls V hl
            refine lv_iload hx hb dX4_goOnFrom_53 (lv_at hl 0 rfl) ?_
            refine lv_aload_n hx hb dX4_goOnFrom_55 rfl (lv_at hl 3 rfl) ?_
            refine g_callVU (nA := 0) hC V hl.1 (s_everyone l D T a0 an am al ao au a1 a2 a3 a4 a5 a6 a7 a8 a9 a10 (by first | assumption | omega)) w_744 w_463 w_464 w_3 w_465 (by decide +kernel) rfl ⟨(Nat.le_of_ble_eq_true rfl), (Nat.le_of_ble_eq_true rfl)⟩ 7 (ci := 5) rfl rfl [7] rfl rfl (Nat.le_of_ble_eq_true rfl) dX4_goOnFrom_56 ⟨(Nat.le_of_ble_eq_true rfl), (Nat.le_of_ble_eq_true rfl)⟩ rfl (fun r w1 H locs hQ V => ?_)
            obtain ⟨rfl, rfl⟩ := hQ
            have V : gW D T A s [(e0, .inr (4, [.ref e1, .ref e2, .int (nI mt), .ref e3, .ref e4, .ref e5, .ref e6])), (e1, .inl (T 1, 3001, .inr (.inl fa))), (e2, .inl (T 0, 8192, .inl fb)), (e3, .inl (T 0, 3, .inl gc_1)), (e4, .inl (T 0, 3, .inl gd_2)), (e5, .inl (T 0, 3, .inl fe)), (e6, .inl (T 0, 24, .inl ef)), (a0, .inr (5, [.int (nI an), .int am, .int al, .int ao, .int au, .ref a1, .ref a2, .ref a3, .ref a4, .ref a5, .ref a6, .ref a7, .ref a8, .ref a9, .ref a10])), (a4, .inl (T 0, 10, .inl af4)), (a5, .inl (T 0, 10, .inl af5)), (a6, .inl (T 0, 10, .inl af6))] H locs := V _ [7] rfl rfl rfl (by decide +kernel) rfl
            show W p l e _ s m args below meth c H locs _ _ _ (F0 m 59 ls [.int (nI (2 ^ an - 1)), .int (nI k53)])
            refine lv_icmp_gt (tgt := 161) hx hb dX4_goOnFrom_59 (by decide) (fun c_6 => ?_) (fun c_6 => ?_)
            · skip
              have c_6 := b_lt (by omega) (by omega) c_6
              exact g_vret (Qr := (q_e_goOn T e0 a0 v e1 e2 em e3 e4 e5 e6 ea eb ec ed ee ef an am al ao au a1 a2 a3 a4 a5 a6 a7 a8 a9 a10 af4 af5 af6)) hC V ⟨(Nat.le_of_ble_eq_true rfl), (Nat.le_of_ble_eq_true rfl)⟩ ⟨mt, fa, fb, gc_1, gd_2, fe, rfl, rfl, (by first | assumption | omega), (by first | assumption | omega), (by first | assumption | omega)⟩ dX4_goOnFrom_161
            · skip
              have c_6 := b_nlt (by omega) (by omega) c_6
              refine lv_iconst (v := (nI 0)) hx hb dX4_goOnFrom_62 (by decide +kernel) ?_
              refine lv_istore (lv' := [(6, .int (nI 0)), (5, .int (nI k53)), (4, .int (nI ab)), (0, .ref e0), (1, .ref a0), (2, .long v)]) hx hb dX4_goOnFrom_63 hl (by decide) rfl (fun ls hl => ?_)
              have L_7 : ∀ (fu : Nat) (k65 : Nat) (fe2 : Nat → Int32), k65 ≤ an → an - k65 < fu → ∀ (H : Heap) (locs : List Loc) (ls : Array Slot), gW D T A s [(e0, .inr (4, [.ref e1, .ref e2, .int (nI mt), .ref e3, .ref e4, .ref e5, .ref e6])), (e1, .inl (T 1, 3001, .inr (.inl fa))), (e2, .inl (T 0, 8192, .inl fb)), (e3, .inl (T 0, 3, .inl gc_1)), (e4, .inl (T 0, 3, .inl gd_2)), (e5, .inl (T 0, 3, .inl fe2)), (e6, .inl (T 0, 24, .inl ef)), (a0, .inr (5, [.int (nI an), .int am, .int al, .int ao, .int au, .ref a1, .ref a2, .ref a3, .ref a4, .ref a5, .ref a6, .ref a7, .ref a8, .ref a9, .ref a10])), (a4, .inl (T 0, 10, .inl af4)), (a5, .inl (T 0, 10, .inl af5)), (a6, .inl (T 0, 10, .inl af6))] H locs → lv_has ls 7 [(6, .int (nI k65)), (5, .int (nI k53)), (4, .int (nI ab)), (0, .ref e0), (1, .ref a0), (2, .long v)] → W p l e (rmD 2 0 0) s m args below meth c H locs 0 0 (MQ below (gQ D A (q_e_goOn T e0 a0 v e1 e2 em e3 e4 e5 e6 ea eb ec ed ee ef an am al ao au a1 a2 a3 a4 a5 a6 a7 a8 a9 a10 af4 af5 af6)) args s 0 0 A) (F0 m 65 ls []) := by
                intro fu_65
                induction fu_65 with
                | zero => intro k65 fe2 hk65 hmu; exact absurd hmu (Nat.not_lt_zero _)
                | succ fu_65 ih_65 =>
                  intro k65 fe2 hk65 hmu_65 H locs ls V hl
                  refine lv_iload hx hb dX4_goOnFrom_65 (lv_at hl 0 rfl) ?_
                  refine lv_aload_n hx hb dX4_goOnFrom_67 rfl (lv_at hl 4 rfl) ?_
                  refine g_get hC V (ci := 5) uwX5 7 rfl rfl 0 (by decide) w_34 rfl rfl dX4_goOnFrom_68 ?_
                  refine lv_icmp_ge (tgt := 110) hx hb dX4_goOnFrom_71 (by decide) (fun c_8 => ?_) (fun c_8 => ?_)
                  · skip
                    have c_8 := b_le (by omega) (by omega) c_8
                    refine lv_iconst (v := (nI 0)) hx hb dX4_goOnFrom_110 (by decide +kernel) ?_
                    refine lv_istore (lv' := [(6, .int (nI 0)), (5, .int (nI k53)), (4, .int (nI ab)), (0, .ref e0), (1, .ref a0), (2, .long v)]) hx hb dX4_goOnFrom_111 hl (by decide) rfl (fun ls hl => ?_)
                    have L_9 : ∀ (fu : Nat) (k113 : Nat) (mu : Nat) (fa2 : Nat → Int64) (fb2 : Nat → Int32), k113 ≤ ab + 1 → em ≤ mu → mu ≤ 3001 → (∀ i, i < 8192 → bd (fb2 i) (mu + 1)) → ab + 1 - k113 < fu → ∀ (H : Heap) (locs : List Loc) (ls : Array Slot), gW D T A s [(e0, .inr (4, [.ref e1, .ref e2, .int (nI mu), .ref e3, .ref e4, .ref e5, .ref e6])), (e1, .inl (T 1, 3001, .inr (.inl fa2))), (e2, .inl (T 0, 8192, .inl fb2)), (e3, .inl (T 0, 3, .inl gc_1)), (e4, .inl (T 0, 3, .inl gd_2)), (e5, .inl (T 0, 3, .inl fe2)), (e6, .inl (T 0, 24, .inl ef)), (a0, .inr (5, [.int (nI an), .int am, .int al, .int ao, .int au, .ref a1, .ref a2, .ref a3, .ref a4, .ref a5, .ref a6, .ref a7, .ref a8, .ref a9, .ref a10])), (a4, .inl (T 0, 10, .inl af4)), (a5, .inl (T 0, 10, .inl af5)), (a6, .inl (T 0, 10, .inl af6))] H locs → lv_has ls 7 [(6, .int (nI k113)), (5, .int (nI k53)), (4, .int (nI ab)), (0, .ref e0), (1, .ref a0), (2, .long v)] → W p l e (rmD 2 0 0) s m args below meth c H locs 0 0 (MQ below (gQ D A (q_e_goOn T e0 a0 v e1 e2 em e3 e4 e5 e6 ea eb ec ed ee ef an am al ao au a1 a2 a3 a4 a5 a6 a7 a8 a9 a10 af4 af5 af6)) args s 0 0 A) (F0 m 113 ls []) := by
                      intro fu_113
                      induction fu_113 with
                      | zero => intro k113 mu fa2 fb2 hk113 hu1 hu2 hu3 hmu; exact absurd hmu (Nat.not_lt_zero _)
                      | succ fu_113 ih_113 =>
                        intro k113 mu fa2 fb2 hk113 hu1 hu2 hu3 hmu_113 H locs ls V hl
                        refine lv_iload hx hb dX4_goOnFrom_113 (lv_at hl 0 rfl) ?_
                        refine lv_iload hx hb dX4_goOnFrom_115 (lv_at hl 2 rfl) ?_
                        refine lv_icmp_gt (tgt := 155) hx hb dX4_goOnFrom_117 (by decide) (fun c_10 => ?_) (fun c_10 => ?_)
                        · skip
                          have c_10 := b_lt (by omega) (by omega) c_10
                          refine lv_iinc (v := (nI (k53 + 1))) (lv' := [(5, .int (nI (k53 + 1))), (6, .int (nI k113)), (4, .int (nI ab)), (0, .ref e0), (1, .ref a0), (2, .long v)]) hx hb dX4_goOnFrom_155 hl (k := 1) rfl (nI_1 _) (by decide) rfl (fun ls hl => ?_)
                          refine lv_goto (tgt := 53) hx hb dX4_goOnFrom_158 (by decide) ?_
                          exact ih_53 (k53 + 1) mu fa2 fb2 fe2 (by omega) (by omega) (by omega) (by assumption) (by omega) _ _ _ V (lv_sub hl [0, 2, 3, 4, 5] rfl)
                        · skip
                          have c_10 := b_nlt (by omega) (by omega) c_10
                          refine lv_iload hx hb dX4_goOnFrom_120 (lv_at hl 0 rfl) ?_
                          refine lv_iload hx hb dX4_goOnFrom_122 (lv_at hl 2 rfl) ?_
                          refine lv_iconst (v := (-1)) hx hb dX4_goOnFrom_124 (by decide +kernel) ?_
                          refine lv_ixor hx hb dX4_goOnFrom_125 ?_
                          refine lv_iand hx hb dX4_goOnFrom_126 ?_
                          refine lv_if_ne (tgt := 149) hx hb dX4_goOnFrom_127 (by decide) (fun c_11 => ?_) (fun c_11 => ?_)
                          · skip
                            refine lv_iinc (v := (nI (k113 + 1))) (lv' := [(6, .int (nI (k113 + 1))), (5, .int (nI k53)), (4, .int (nI ab)), (0, .ref e0), (1, .ref a0), (2, .long v)]) hx hb dX4_goOnFrom_149 hl (k := 0) rfl (nI_1 _) (by decide) rfl (fun ls hl => ?_)
                            refine lv_goto (tgt := 113) hx hb dX4_goOnFrom_152 (by decide) ?_
                            exact ih_113 (k113 + 1) mu fa2 fb2 (by omega) (by omega) (by omega) (by assumption) (by omega) _ _ _ V (lv_sub hl [0, 1, 2, 3, 4, 5] rfl)
                          · skip
                            refine lv_iload hx hb dX4_goOnFrom_130 (lv_at hl 0 rfl) ?_
                            refine lv_iload hx hb dX4_goOnFrom_132 (lv_at hl 1 rfl) ?_
                            refine lv_iand hx hb dX4_goOnFrom_134 ?_
                            refine lv_if_ne (tgt := 149) hx hb dX4_goOnFrom_135 (by decide) (fun c_12 => ?_) (fun c_12 => ?_)
                            · skip
                              refine lv_iinc (v := (nI (k113 + 1))) (lv' := [(6, .int (nI (k113 + 1))), (5, .int (nI k53)), (4, .int (nI ab)), (0, .ref e0), (1, .ref a0), (2, .long v)]) hx hb dX4_goOnFrom_149 hl (k := 0) rfl (nI_1 _) (by decide) rfl (fun ls hl => ?_)
                              refine lv_goto (tgt := 113) hx hb dX4_goOnFrom_152 (by decide) ?_
                              exact ih_113 (k113 + 1) mu fa2 fb2 (by omega) (by omega) (by omega) (by assumption) (by omega) _ _ _ V (lv_sub hl [0, 1, 2, 3, 4, 5] rfl)
                            · skip
                              refine lv_aload_n hx hb dX4_goOnFrom_138 rfl (lv_at hl 3 rfl) ?_
                              refine lv_aload_n hx hb dX4_goOnFrom_139 rfl (lv_at hl 3 rfl) ?_
                              refine lv_aload_n hx hb dX4_goOnFrom_140 rfl (lv_at hl 4 rfl) ?_
                              refine lv_iload hx hb dX4_goOnFrom_141 (lv_at hl 0 rfl) ?_
                              refine g_callVU (nA := 2) hC V hl.1 (e_behind l D T e0 a0 (nI k113) e1 e2 mu e3 e4 e5 e6 gd_2 fe2 an am al ao au a1 a2 a3 a4 a5 a6 a7 a8 a9 a10 af5 af6 (by first | assumption | omega)) w_777 w_779 w_s30 w_18 w_780 (by decide +kernel) rfl ⟨(Nat.le_of_ble_eq_true rfl), (Nat.le_of_ble_eq_true rfl)⟩ 0 (ci := 4) rfl rfl [0, 4, 5, 7, 9, 10] rfl rfl (Nat.le_of_ble_eq_true rfl) dX4_goOnFrom_143 ⟨(Nat.le_of_ble_eq_true rfl), (Nat.le_of_ble_eq_true rfl)⟩ rfl (fun r w1 H locs hQ V => ?_)
                              obtain ⟨z_13, rfl, rfl⟩ := hQ
                              have V : gW D T A s [(e0, .inr (4, [.ref e1, .ref e2, .int (nI mu), .ref e3, .ref e4, .ref e5, .ref e6])), (e1, .inl (T 1, 3001, .inr (.inl fa2))), (e2, .inl (T 0, 8192, .inl fb2)), (e3, .inl (T 0, 3, .inl gc_1)), (e4, .inl (T 0, 3, .inl gd_2)), (e5, .inl (T 0, 3, .inl fe2)), (e6, .inl (T 0, 24, .inl ef)), (a0, .inr (5, [.int (nI an), .int am, .int al, .int ao, .int au, .ref a1, .ref a2, .ref a3, .ref a4, .ref a5, .ref a6, .ref a7, .ref a8, .ref a9, .ref a10])), (a4, .inl (T 0, 10, .inl af4)), (a5, .inl (T 0, 10, .inl af5)), (a6, .inl (T 0, 10, .inl af6))] H locs := V _ [0, 3, 0, 1, 1, 0] rfl rfl rfl (by decide +kernel) rfl
                              show W p l e _ s m args below meth c H locs _ _ _ (F0 m 146 ls [.long z_13, .ref e0])
                              refine g_callVU (nA := 1) hC V hl.1 (e_meet l D T e0 z_13 e1 e2 mu e3 e4 e5 e6 fa2 fb2 (by first | assumption | omega) (by first | assumption | omega)) w_754 w_756 w_s25 w_18 w_757 (by decide +kernel) rfl ⟨(Nat.le_of_ble_eq_true rfl), (Nat.le_of_ble_eq_true rfl)⟩ 0 (ci := 4) rfl rfl [0, 1, 2] rfl rfl (Nat.le_of_ble_eq_true rfl) dX4_goOnFrom_146 ⟨(Nat.le_of_ble_eq_true rfl), (Nat.le_of_ble_eq_true rfl)⟩ rfl (fun r w1 H locs hQ V => ?_)
                              obtain ⟨em2_14, g1_15, g2_16, rfl, rfl, f_17, f_18, f_19⟩ := hQ
                              have V : gW D T A s [(e0, .inr (4, [.ref e1, .ref e2, .int (nI em2_14), .ref e3, .ref e4, .ref e5, .ref e6])), (e1, .inl (T 1, 3001, .inr (.inl g1_15))), (e2, .inl (T 0, 8192, .inl g2_16)), (e3, .inl (T 0, 3, .inl gc_1)), (e4, .inl (T 0, 3, .inl gd_2)), (e5, .inl (T 0, 3, .inl fe2)), (e6, .inl (T 0, 24, .inl ef)), (a0, .inr (5, [.int (nI an), .int am, .int al, .int ao, .int au, .ref a1, .ref a2, .ref a3, .ref a4, .ref a5, .ref a6, .ref a7, .ref a8, .ref a9, .ref a10])), (a4, .inl (T 0, 10, .inl af4)), (a5, .inl (T 0, 10, .inl af5)), (a6, .inl (T 0, 10, .inl af6))] H locs := V _ [0, 0, 0] rfl rfl rfl (by decide +kernel) rfl
                              show W p l e _ s m args below meth c H locs _ _ _ (F0 m 149 ls [])
                              refine lv_iinc (v := (nI (k113 + 1))) (lv' := [(6, .int (nI (k113 + 1))), (5, .int (nI k53)), (4, .int (nI ab)), (0, .ref e0), (1, .ref a0), (2, .long v)]) hx hb dX4_goOnFrom_149 hl (k := 0) rfl (nI_1 _) (by decide) rfl (fun ls hl => ?_)
                              refine lv_goto (tgt := 113) hx hb dX4_goOnFrom_152 (by decide) ?_
                              exact ih_113 (k113 + 1) em2_14 g1_15 g2_16 (by omega) (by omega) (by omega) (by assumption) (by omega) _ _ _ V (lv_sub hl [0, 1, 2, 3, 4, 5] rfl)
                    exact L_9 _ 0 mt fa fb (by omega) (by omega) (by omega) (by assumption) (Nat.lt_succ_self _) _ _ _ V (lv_sub hl [0, 1, 2, 3, 4, 5] rfl)
                  · skip
                    have c_8 := b_nle (by omega) (by omega) c_8
                    refine lv_aload_n hx hb dX4_goOnFrom_74 rfl (lv_at hl 3 rfl) ?_
                    refine g_get hC V (ci := 4) uwX4 0 rfl rfl 5 (by decide) w_718 rfl rfl dX4_goOnFrom_75 ?_
                    refine lv_iload hx hb dX4_goOnFrom_78 (lv_at hl 0 rfl) ?_
                    refine lv_aload_n hx hb dX4_goOnFrom_80 rfl (lv_at hl 3 rfl) ?_
                    refine g_get hC V (ci := 4) uwX4 0 rfl rfl 3 (by decide) w_716 rfl rfl dX4_goOnFrom_81 ?_
                    refine lv_iload hx hb dX4_goOnFrom_84 (lv_at hl 0 rfl) ?_
                    refine g_iald hC V 3 rfl (vp_in_nI (by omega) (by omega)) (v := (gc_1 k65)) (congrArg _ (nI_clamp (by omega))) dX4_goOnFrom_86 ?_
                    refine lv_aload_n hx hb dX4_goOnFrom_87 rfl (lv_at hl 3 rfl) ?_
                    refine g_get hC V (ci := 4) uwX4 0 rfl rfl 6 (by decide) w_719 rfl rfl dX4_goOnFrom_88 ?_
                    refine lv_iconst (v := (nI 3)) hx hb dX4_goOnFrom_91 (by decide +kernel) ?_
                    refine lv_iload hx hb dX4_goOnFrom_92 (lv_at hl 1 rfl) ?_
                    refine lv_imul hx hb dX4_goOnFrom_94 ?_
                    refine g_vi (y := (nI (3 * k53))) (pk_mul _ _) ?_
                    refine lv_iload hx hb dX4_goOnFrom_95 (lv_at hl 0 rfl) ?_
                    refine lv_iadd hx hb dX4_goOnFrom_97 ?_
                    refine g_vi (y := (nI ((3 * k53) + k65))) (nI_add _ _) ?_
                    refine g_iald hC V 6 rfl (vp_in_nI (by omega) (by omega)) (v := (ef ((3 * k53) + k65))) (congrArg _ (nI_clamp (by omega))) dX4_goOnFrom_98 ?_
                    refine lv_iadd hx hb dX4_goOnFrom_99 ?_
                    refine g_callSNU (nA := 1) (host := RX7) hC V hl.1 (c_bounded l D T ((gc_1 k65) + (ef ((3 * k53) + k65)))) w_489 (List.mem_of_getElem? (i := 11) rfl) w_2 w_488 (by decide +kernel) rfl ⟨(Nat.le_of_ble_eq_true rfl), (Nat.le_of_ble_eq_true rfl)⟩ [] rfl rfl (Nat.le_of_ble_eq_true rfl) dX4_goOnFrom_100 ⟨(Nat.le_of_ble_eq_true rfl), (Nat.le_of_ble_eq_true rfl)⟩ rfl (fun r w1 H locs hQ V => ?_)
                    obtain ⟨z_20, rfl, rfl⟩ := hQ
                    have V : gW D T A s [(e0, .inr (4, [.ref e1, .ref e2, .int (nI mt), .ref e3, .ref e4, .ref e5, .ref e6])), (e1, .inl (T 1, 3001, .inr (.inl fa))), (e2, .inl (T 0, 8192, .inl fb)), (e3, .inl (T 0, 3, .inl gc_1)), (e4, .inl (T 0, 3, .inl gd_2)), (e5, .inl (T 0, 3, .inl fe2)), (e6, .inl (T 0, 24, .inl ef)), (a0, .inr (5, [.int (nI an), .int am, .int al, .int ao, .int au, .ref a1, .ref a2, .ref a3, .ref a4, .ref a5, .ref a6, .ref a7, .ref a8, .ref a9, .ref a10])), (a4, .inl (T 0, 10, .inl af4)), (a5, .inl (T 0, 10, .inl af5)), (a6, .inl (T 0, 10, .inl af6))] H locs := V _ [] rfl rfl rfl (by decide +kernel) rfl
                    show W p l e _ s m args below meth c H locs _ _ _ (F0 m 103 ls [.int z_20, .int (nI k65), .ref e5])
                    refine g_iast hC V 5 rfl (vp_in_nI (by omega) (by omega)) (f' := (upd fe2 k65 z_20)) (by rw [nI_clamp (by omega)]) (ws' := [(e0, .inr (4, [.ref e1, .ref e2, .int (nI mt), .ref e3, .ref e4, .ref e5, .ref e6])), (e1, .inl (T 1, 3001, .inr (.inl fa))), (e2, .inl (T 0, 8192, .inl fb)), (e3, .inl (T 0, 3, .inl gc_1)), (e4, .inl (T 0, 3, .inl gd_2)), (e5, .inl (T 0, 3, .inl (upd fe2 k65 z_20))), (e6, .inl (T 0, 24, .inl ef)), (a0, .inr (5, [.int (nI an), .int am, .int al, .int ao, .int au, .ref a1, .ref a2, .ref a3, .ref a4, .ref a5, .ref a6, .ref a7, .ref a8, .ref a9, .ref a10])), (a4, .inl (T 0, 10, .inl af4)), (a5, .inl (T 0, 10, .inl af5)), (a6, .inl (T 0, 10, .inl af6))]) rfl dX4_goOnFrom_103 (fun H locs V => ?_)
                    refine lv_iinc (v := (nI (k65 + 1))) (lv' := [(6, .int (nI (k65 + 1))), (5, .int (nI k53)), (4, .int (nI ab)), (0, .ref e0), (1, .ref a0), (2, .long v)]) hx hb dX4_goOnFrom_104 hl (k := 0) rfl (nI_1 _) (by decide) rfl (fun ls hl => ?_)
                    refine lv_goto (tgt := 65) hx hb dX4_goOnFrom_107 (by decide) ?_
                    exact ih_65 (k65 + 1) (upd fe2 k65 z_20) (by omega) (by omega) _ _ _ V (lv_sub hl [0, 1, 2, 3, 4, 5] rfl)
              exact L_7 _ 0 fe (by omega) (Nat.lt_succ_self _) _ _ _ V (lv_sub hl [0, 1, 2, 3, 4, 5] rfl)
        exact L_5 _ 0 em ea eb ee (by omega) (by omega) (by omega) h_sl (Nat.lt_succ_self _) _ _ _ V (lv_sub hl [0, 1, 2, 3, 4] rfl)
      · skip
        have c_4 := b_nle (by omega) (by omega) c_4
        refine lv_iload hx hb dX4_goOnFrom_21 (lv_at hl 1 rfl) ?_
        refine lv_aload_n hx hb dX4_goOnFrom_23 rfl (lv_at hl 2 rfl) ?_
        refine lv_aload_n hx hb dX4_goOnFrom_24 rfl (lv_at hl 3 rfl) ?_
        refine lv_iload hx hb dX4_goOnFrom_25 (lv_at hl 0 rfl) ?_
        refine g_callVU (nA := 2) hC V hl.1 (e_canStrike l D T e0 a0 k12 e1 e2 em e3 e4 e5 e6 gc_1 gd_2 an am al ao au a1 a2 a3 a4 a5 a6 a7 a8 a9 a10 af4 af5 af6 (by first | assumption | omega)) w_767 w_769 w_s28 w_18 w_770 (by decide +kernel) rfl ⟨(Nat.le_of_ble_eq_true rfl), (Nat.le_of_ble_eq_true rfl)⟩ 0 (ci := 4) rfl rfl [0, 3, 4, 7, 8, 9, 10] rfl rfl (Nat.le_of_ble_eq_true rfl) dX4_goOnFrom_27 ⟨(Nat.le_of_ble_eq_true rfl), (Nat.le_of_ble_eq_true rfl)⟩ rfl (fun r w1 H locs hQ V => ?_)
        rcases hQ with ⟨rfl, rfl⟩ | ⟨rfl, rfl⟩
        · have V : gW D T A s [(e0, .inr (4, [.ref e1, .ref e2, .int (nI em), .ref e3, .ref e4, .ref e5, .ref e6])), (e1, .inl (T 1, 3001, .inr (.inl ea))), (e2, .inl (T 0, 8192, .inl eb)), (e3, .inl (T 0, 3, .inl gc_1)), (e4, .inl (T 0, 3, .inl gd_2)), (e5, .inl (T 0, 3, .inl ee)), (e6, .inl (T 0, 24, .inl ef)), (a0, .inr (5, [.int (nI an), .int am, .int al, .int ao, .int au, .ref a1, .ref a2, .ref a3, .ref a4, .ref a5, .ref a6, .ref a7, .ref a8, .ref a9, .ref a10])), (a4, .inl (T 0, 10, .inl af4)), (a5, .inl (T 0, 10, .inl af5)), (a6, .inl (T 0, 10, .inl af6))] H locs := V _ [0, 2, 0, 2, 0, 0, 0] rfl rfl rfl (by decide +kernel) rfl
          show W p l e _ s m args below meth c H locs _ _ _ (F0 m 30 ls [.int (nI 1), .int (nI ab)])
          refine lv_if_eq (tgt := 40) hx hb dX4_goOnFrom_30 (by decide) (fun c => absurd (show (nI 1) = 0 from c) (by decide +kernel)) (fun _ => ?_)
          refine lv_iconst (v := (nI 1)) hx hb dX4_goOnFrom_33 (by decide +kernel) ?_
          refine lv_iload hx hb dX4_goOnFrom_34 (lv_at hl 0 rfl) ?_
          refine lv_ishl hx hb dX4_goOnFrom_36 ?_
          refine g_vi (y := (nI (2 ^ k12))) (shl_pow (by omega)) ?_
          refine lv_goto (tgt := 41) hx hb dX4_goOnFrom_37 (by decide) ?_
          refine lv_ior hx hb dX4_goOnFrom_41 ?_
          obtain ⟨j_21, hj_21, ej_21⟩ := or8 (a := ab) (b := 2 ^ k12) (by omega) (by first | omega | exact pw_lt3 (by omega))
          refine g_vi (y := nI j_21) ej_21 ?_
          refine lv_istore (lv' := [(4, .int (nI j_21)), (5, .int (nI k12)), (0, .ref e0), (1, .ref a0), (2, .long v)]) hx hb dX4_goOnFrom_42 hl (by decide) rfl (fun ls hl => ?_)
          refine lv_iinc (v := (nI (k12 + 1))) (lv' := [(5, .int (nI (k12 + 1))), (4, .int (nI j_21)), (0, .ref e0), (1, .ref a0), (2, .long v)]) hx hb dX4_goOnFrom_44 hl (k := 1) rfl (nI_1 _) (by decide) rfl (fun ls hl => ?_)
          refine lv_goto (tgt := 12) hx hb dX4_goOnFrom_47 (by decide) ?_
          exact ih_12 (k12 + 1) j_21 (by omega) (by assumption) (by omega) _ _ _ V (lv_sub hl [0, 1, 2, 3, 4] rfl)
        · have V : gW D T A s [(e0, .inr (4, [.ref e1, .ref e2, .int (nI em), .ref e3, .ref e4, .ref e5, .ref e6])), (e1, .inl (T 1, 3001, .inr (.inl ea))), (e2, .inl (T 0, 8192, .inl eb)), (e3, .inl (T 0, 3, .inl gc_1)), (e4, .inl (T 0, 3, .inl gd_2)), (e5, .inl (T 0, 3, .inl ee)), (e6, .inl (T 0, 24, .inl ef)), (a0, .inr (5, [.int (nI an), .int am, .int al, .int ao, .int au, .ref a1, .ref a2, .ref a3, .ref a4, .ref a5, .ref a6, .ref a7, .ref a8, .ref a9, .ref a10])), (a4, .inl (T 0, 10, .inl af4)), (a5, .inl (T 0, 10, .inl af5)), (a6, .inl (T 0, 10, .inl af6))] H locs := V _ [0, 2, 0, 2, 0, 0, 0] rfl rfl rfl (by decide +kernel) rfl
          show W p l e _ s m args below meth c H locs _ _ _ (F0 m 30 ls [.int (nI 0), .int (nI ab)])
          refine lv_if_eq (tgt := 40) hx hb dX4_goOnFrom_30 (by decide) (fun _ => ?_) (fun c => absurd (show (nI 0) = 0 by decide +kernel) c)
          refine lv_iconst (v := (nI 0)) hx hb dX4_goOnFrom_40 (by decide +kernel) ?_
          refine lv_ior hx hb dX4_goOnFrom_41 ?_
          obtain ⟨j_22, hj_22, ej_22⟩ := or8 (a := ab) (b := 0) (by omega) (by first | omega | exact pw_lt3 (by omega))
          refine g_vi (y := nI j_22) ej_22 ?_
          refine lv_istore (lv' := [(4, .int (nI j_22)), (5, .int (nI k12)), (0, .ref e0), (1, .ref a0), (2, .long v)]) hx hb dX4_goOnFrom_42 hl (by decide) rfl (fun ls hl => ?_)
          refine lv_iinc (v := (nI (k12 + 1))) (lv' := [(5, .int (nI (k12 + 1))), (4, .int (nI j_22)), (0, .ref e0), (1, .ref a0), (2, .long v)]) hx hb dX4_goOnFrom_44 hl (k := 1) rfl (nI_1 _) (by decide) rfl (fun ls hl => ?_)
          refine lv_goto (tgt := 12) hx hb dX4_goOnFrom_47 (by decide) ?_
          exact ih_12 (k12 + 1) j_22 (by omega) (by assumption) (by omega) _ _ _ V (lv_sub hl [0, 1, 2, 3, 4] rfl)
  exact L_3 _ 0 0 (by omega) (by omega) (Nat.lt_succ_self _) _ _ _ V (lv_sub hl [0, 1, 2, 3, 4] rfl)

def q_e_fill (T : Nat → ClassId) (a : Nat) (x : Int32) (f0 : Nat → Int32) : Option Value → va_W → Prop := fun rr ww => (∃ (g : Nat → Int32), rr = none ∧ ww = [(a, .inl (T 0, 8192, .inl g))] ∧ (∀ i, i < 8192 → g i = x))
set_option maxHeartbeats 4000000 in
set_option maxRecDepth 100000 in
theorem e_fill (l : Launch) (D : va_G) (T : Nat → ClassId) (a : Nat) (x : Int32) (f0 : Nat → Int32) : Ct l yJ7_fill_53178 cJ7_fill_53178 4 none 0 0 0 D T [.ref a, .int x] [(a, .inl (T 0, 8192, .inl f0))] (q_e_fill T a x f0) := by
  refine Ct.of (cc := cJ7_fill_53178) (maxL := 4) (ret := none) (by decide) (Nat.le_of_ble_eq_true rfl) ?_
  intro p e s m args below meth c A ls hC hnm V hl
  obtain ⟨hx, hb, hr, hml, hown, hts, hlocks⟩ := id hC
  generalize hH : s.heap = H at V ⊢
  clear hH
  have hl : lv_has ls 4 [(0, .ref a), (1, .int x)] := hl
  generalize hlo : ([] : List Loc) = locs at V ⊢
  clear hlo
  refine lv_iconst (v := (nI 0)) hx hb dJ7_fill_53178_0 (by decide +kernel) ?_
  refine lv_istore_n (lv' := [(2, .int (nI 0)), (0, .ref a), (1, .int x)]) hx hb dJ7_fill_53178_1 rfl hl (by decide) rfl (fun ls hl => ?_)
  refine lv_aload_n hx hb dJ7_fill_53178_2 rfl (lv_at hl 1 rfl) ?_
  refine g_alen hC V 0 0 rfl rfl dJ7_fill_53178_3 ?_
  refine lv_istore_n (lv' := [(3, .int (nI 8192)), (2, .int (nI 0)), (0, .ref a), (1, .int x)]) hx hb dJ7_fill_53178_4 rfl hl (by decide) rfl (fun ls hl => ?_)
  have L_1 : ∀ (fu : Nat) (k : Nat) (f : Nat → Int32), k ≤ 8192 → (∀ i, i < k → f i = x) → 8192 - k < fu → ∀ (H : Heap) (locs : List Loc) (ls : Array Slot), gW D T A s [(a, .inl (T 0, 8192, .inl f))] H locs → lv_has ls 4 [(3, .int (nI 8192)), (2, .int (nI k)), (0, .ref a), (1, .int x)] → W p l e (rmD 0 0 0) s m args below meth c H locs 0 0 (MQ below (gQ D A (q_e_fill T a x f0)) args s 0 0 A) (F0 m 5 ls []) := by
    intro fu_5
    induction fu_5 with
    | zero => intro k f hk hf hmu; exact absurd hmu (Nat.not_lt_zero _)
    | succ fu_5 ih_5 =>
      intro k f hk hf hmu_5 H locs ls V hl
      refine lv_iload_n hx hb dJ7_fill_53178_5 rfl (lv_at hl 1 rfl) ?_
      refine lv_iload_n hx hb dJ7_fill_53178_6 rfl (lv_at hl 0 rfl) ?_
      refine lv_icmp_ge (tgt := 20) hx hb dJ7_fill_53178_7 (by decide) (fun c_2 => ?_) (fun c_2 => ?_)
      · skip
        have c_2 := b_le (by omega) (by omega) c_2
        exact g_vret (Qr := (q_e_fill T a x f0)) hC V ⟨(Nat.le_of_ble_eq_true rfl), (Nat.le_of_ble_eq_true rfl)⟩ ⟨f, rfl, rfl, (fun i h => hf i (by omega))⟩ dJ7_fill_53178_20
      · skip
        have c_2 := b_nle (by omega) (by omega) c_2
        refine lv_aload_n hx hb dJ7_fill_53178_10 rfl (lv_at hl 2 rfl) ?_
        refine lv_iload_n hx hb dJ7_fill_53178_11 rfl (lv_at hl 1 rfl) ?_
        refine lv_iload_n hx hb dJ7_fill_53178_12 rfl (lv_at hl 3 rfl) ?_
        refine g_iast hC V 0 rfl (vp_in_nI (by omega) (by omega)) (f' := (upd f k x)) (by rw [nI_clamp (by omega)]) (ws' := [(a, .inl (T 0, 8192, .inl (upd f k x)))]) rfl dJ7_fill_53178_13 (fun H locs V => ?_)
        refine lv_iinc (v := (nI (k + 1))) (lv' := [(2, .int (nI (k + 1))), (3, .int (nI 8192)), (0, .ref a), (1, .int x)]) hx hb dJ7_fill_53178_14 hl (k := 1) rfl (nI_1 _) (by decide) rfl (fun ls hl => ?_)
        refine lv_goto (tgt := 5) hx hb dJ7_fill_53178_17 (by decide) ?_
        exact ih_5 (k + 1) (upd f k x) (by omega) (up_one (p := fun i y => y = x) hf rfl) (by omega) _ _ _ V (lv_sub hl [1, 0, 2, 3] rfl)
  exact L_1 _ 0 f0 (by omega) (fun i h => absurd h (Nat.not_lt_zero _)) (Nat.lt_succ_self _) _ _ _ V (lv_sub hl [0, 1, 2, 3] rfl)

def q_e_minutes (T : Nat → ClassId) (e0 : Nat) (a0 : Nat) (e1 : Nat) (e2 : Nat) (em : Int32) (e3 : Nat) (e4 : Nat) (e5 : Nat) (e6 : Nat) (ea : Nat → Int64) (eb : Nat → Int32) (ec : Nat → Int32) (ed : Nat → Int32) (ee : Nat → Int32) (ef : Nat → Int32) (an : Nat) (am : Int32) (al : Int32) (ao : Int32) (au : Int32) (a1 : Nat) (a2 : Nat) (a3 : Nat) (a4 : Nat) (a5 : Nat) (a6 : Nat) (a7 : Nat) (a8 : Nat) (a9 : Nat) (a10 : Nat) (af1 : Nat → Int32) (af2 : Nat → Int32) (af3 : Nat → Int32) (af4 : Nat → Int32) (af5 : Nat → Int32) (af6 : Nat → Int32) (af7 : Nat → Int32) (af9 : Nat → Int32) : Option Value → va_W → Prop := fun rr ww => (∃ (z : Int32) (em2 : Nat) (g1 : Nat → Int64) (g2 : Nat → Int32) (gc : Nat → Int32) (gd : Nat → Int32) (ge : Nat → Int32) (gf : Nat → Int32), rr = some (.int z) ∧ ww = [(e0, .inr (4, [.ref e1, .ref e2, .int (nI em2), .ref e3, .ref e4, .ref e5, .ref e6])), (e1, .inl (T 1, 3001, .inr (.inl g1))), (e2, .inl (T 0, 8192, .inl g2)), (e3, .inl (T 0, 3, .inl gc)), (e4, .inl (T 0, 3, .inl gd)), (e5, .inl (T 0, 3, .inl ge)), (e6, .inl (T 0, 24, .inl gf)), (a0, .inr (5, [.int (nI an), .int am, .int al, .int ao, .int au, .ref a1, .ref a2, .ref a3, .ref a4, .ref a5, .ref a6, .ref a7, .ref a8, .ref a9, .ref a10])), (a1, .inl (T 0, 10, .inl af1)), (a2, .inl (T 0, 10, .inl af2)), (a3, .inl (T 0, 10, .inl af3)), (a4, .inl (T 0, 10, .inl af4)), (a5, .inl (T 0, 10, .inl af5)), (a6, .inl (T 0, 10, .inl af6)), (a7, .inl (T 0, 10, .inl af7)), (a9, .inl (T 0, 10, .inl af9))] ∧ em2 ≤ 3001)
set_option maxHeartbeats 4000000 in
set_option maxRecDepth 100000 in
theorem e_minutes (l : Launch) (D : va_G) (T : Nat → ClassId) (e0 : Nat) (a0 : Nat) (e1 : Nat) (e2 : Nat) (em : Int32) (e3 : Nat) (e4 : Nat) (e5 : Nat) (e6 : Nat) (ea : Nat → Int64) (eb : Nat → Int32) (ec : Nat → Int32) (ed : Nat → Int32) (ee : Nat → Int32) (ef : Nat → Int32) (an : Nat) (am : Int32) (al : Int32) (ao : Int32) (au : Int32) (a1 : Nat) (a2 : Nat) (a3 : Nat) (a4 : Nat) (a5 : Nat) (a6 : Nat) (a7 : Nat) (a8 : Nat) (a9 : Nat) (a10 : Nat) (af1 : Nat → Int32) (af2 : Nat → Int32) (af3 : Nat → Int32) (af4 : Nat → Int32) (af5 : Nat → Int32) (af6 : Nat → Int32) (af7 : Nat → Int32) (af9 : Nat → Int32) (h_n : an ≤ 3) : Ct l yX4_minutesToEnd cX4_minutesToEnd 6 (some .int) 3 0 0 D T [.ref e0, .ref a0] [(e0, .inr (4, [.ref e1, .ref e2, .int em, .ref e3, .ref e4, .ref e5, .ref e6])), (e1, .inl (T 1, 3001, .inr (.inl ea))), (e2, .inl (T 0, 8192, .inl eb)), (e3, .inl (T 0, 3, .inl ec)), (e4, .inl (T 0, 3, .inl ed)), (e5, .inl (T 0, 3, .inl ee)), (e6, .inl (T 0, 24, .inl ef)), (a0, .inr (5, [.int (nI an), .int am, .int al, .int ao, .int au, .ref a1, .ref a2, .ref a3, .ref a4, .ref a5, .ref a6, .ref a7, .ref a8, .ref a9, .ref a10])), (a1, .inl (T 0, 10, .inl af1)), (a2, .inl (T 0, 10, .inl af2)), (a3, .inl (T 0, 10, .inl af3)), (a4, .inl (T 0, 10, .inl af4)), (a5, .inl (T 0, 10, .inl af5)), (a6, .inl (T 0, 10, .inl af6)), (a7, .inl (T 0, 10, .inl af7)), (a9, .inl (T 0, 10, .inl af9))] (q_e_minutes T e0 a0 e1 e2 em e3 e4 e5 e6 ea eb ec ed ee ef an am al ao au a1 a2 a3 a4 a5 a6 a7 a8 a9 a10 af1 af2 af3 af4 af5 af6 af7 af9) := by
  refine Ct.of (cc := cX4_minutesToEnd) (maxL := 6) (ret := (some .int)) (by decide) (Nat.le_of_ble_eq_true rfl) ?_
  intro p e s m args below meth c A ls hC hnm V hl
  obtain ⟨hx, hb, hr, hml, hown, hts, hlocks⟩ := id hC
  generalize hH : s.heap = H at V ⊢
  clear hH
  have hl : lv_has ls 6 [(0, .ref e0), (1, .ref a0)] := hl
  generalize hlo : ([] : List Loc) = locs at V ⊢
  clear hlo
  refine lv_aload_n hx hb dX4_minutesToEnd_0 rfl (lv_at hl 0 rfl) ?_
  refine g_get hC V (ci := 4) uwX4 0 rfl rfl 1 (by decide) w_714 rfl rfl dX4_minutesToEnd_1 ?_
  refine lv_iconst (v := (nI 0)) hx hb dX4_minutesToEnd_4 (by decide +kernel) ?_
  refine g_callSU (nA := 2) hC V hl.1 (e_fill l D T e2 (nI 0) eb) w_739 w_307 w_11 w_308 (by decide +kernel) rfl ⟨(Nat.le_of_ble_eq_true rfl), (Nat.le_of_ble_eq_true rfl)⟩ [2] rfl rfl (Nat.le_of_ble_eq_true rfl) dX4_minutesToEnd_5 ⟨(Nat.le_of_ble_eq_true rfl), (Nat.le_of_ble_eq_true rfl)⟩ rfl (fun r w1 H locs hQ V => ?_)
  obtain ⟨g_1, rfl, rfl, f_1⟩ := hQ
  have V : gW D T A s [(e0, .inr (4, [.ref e1, .ref e2, .int em, .ref e3, .ref e4, .ref e5, .ref e6])), (e1, .inl (T 1, 3001, .inr (.inl ea))), (e2, .inl (T 0, 8192, .inl g_1)), (e3, .inl (T 0, 3, .inl ec)), (e4, .inl (T 0, 3, .inl ed)), (e5, .inl (T 0, 3, .inl ee)), (e6, .inl (T 0, 24, .inl ef)), (a0, .inr (5, [.int (nI an), .int am, .int al, .int ao, .int au, .ref a1, .ref a2, .ref a3, .ref a4, .ref a5, .ref a6, .ref a7, .ref a8, .ref a9, .ref a10])), (a1, .inl (T 0, 10, .inl af1)), (a2, .inl (T 0, 10, .inl af2)), (a3, .inl (T 0, 10, .inl af3)), (a4, .inl (T 0, 10, .inl af4)), (a5, .inl (T 0, 10, .inl af5)), (a6, .inl (T 0, 10, .inl af6)), (a7, .inl (T 0, 10, .inl af7)), (a9, .inl (T 0, 10, .inl af9))] H locs := V _ [2] rfl rfl rfl (by decide +kernel) rfl
  show W p l e _ s m args below meth c H locs _ _ _ (F0 m 8 ls [])
  have hz : ∀ i, i < 8192 → bd (g_1 i) (0 + 1) := fun i h => by rw [f_1 i h]; exact bd_nI (by decide)
  refine lv_aload_n hx hb dX4_minutesToEnd_8 rfl (lv_at hl 0 rfl) ?_
  refine lv_iconst (v := (nI 0)) hx hb dX4_minutesToEnd_9 (by decide +kernel) ?_
  refine g_put hC V (ci := 4) uwX4 tyX4 tyX4_ok nmX4 0 rfl rfl 2 (by decide) w_715 rfl rfl rfl rfl (Nat.le_of_ble_eq_true rfl) (ws' := [(e0, .inr (4, [.ref e1, .ref e2, .int (nI 0), .ref e3, .ref e4, .ref e5, .ref e6])), (e1, .inl (T 1, 3001, .inr (.inl ea))), (e2, .inl (T 0, 8192, .inl g_1)), (e3, .inl (T 0, 3, .inl ec)), (e4, .inl (T 0, 3, .inl ed)), (e5, .inl (T 0, 3, .inl ee)), (e6, .inl (T 0, 24, .inl ef)), (a0, .inr (5, [.int (nI an), .int am, .int al, .int ao, .int au, .ref a1, .ref a2, .ref a3, .ref a4, .ref a5, .ref a6, .ref a7, .ref a8, .ref a9, .ref a10])), (a1, .inl (T 0, 10, .inl af1)), (a2, .inl (T 0, 10, .inl af2)), (a3, .inl (T 0, 10, .inl af3)), (a4, .inl (T 0, 10, .inl af4)), (a5, .inl (T 0, 10, .inl af5)), (a6, .inl (T 0, 10, .inl af6)), (a7, .inl (T 0, 10, .inl af7)), (a9, .inl (T 0, 10, .inl af9))]) rfl dX4_minutesToEnd_10 (fun H locs V => ?_)
  refine lv_aload_n hx hb dX4_minutesToEnd_13 rfl (lv_at hl 0 rfl) ?_
  refine lv_aload_n hx hb dX4_minutesToEnd_14 rfl (lv_at hl 1 rfl) ?_
  refine g_callVU (nA := 1) hC V hl.1 (e_weigh l D T e0 a0 e1 e2 0 e3 e4 e5 e6 ef an am al ao au a1 a2 a3 a4 a5 a6 a7 a8 a9 a10 af1 af2 af9 (by first | assumption | omega)) w_740 w_742 w_s23 w_18 w_743 (by decide +kernel) rfl ⟨(Nat.le_of_ble_eq_true rfl), (Nat.le_of_ble_eq_true rfl)⟩ 0 (ci := 4) rfl rfl [0, 6, 7, 8, 9, 15] rfl rfl (Nat.le_of_ble_eq_true rfl) dX4_minutesToEnd_15 ⟨(Nat.le_of_ble_eq_true rfl), (Nat.le_of_ble_eq_true rfl)⟩ rfl (fun r w1 H locs hQ V => ?_)
  obtain ⟨g_2, rfl, rfl⟩ := hQ
  have V : gW D T A s [(e0, .inr (4, [.ref e1, .ref e2, .int (nI 0), .ref e3, .ref e4, .ref e5, .ref e6])), (e1, .inl (T 1, 3001, .inr (.inl ea))), (e2, .inl (T 0, 8192, .inl g_1)), (e3, .inl (T 0, 3, .inl ec)), (e4, .inl (T 0, 3, .inl ed)), (e5, .inl (T 0, 3, .inl ee)), (e6, .inl (T 0, 24, .inl g_2)), (a0, .inr (5, [.int (nI an), .int am, .int al, .int ao, .int au, .ref a1, .ref a2, .ref a3, .ref a4, .ref a5, .ref a6, .ref a7, .ref a8, .ref a9, .ref a10])), (a1, .inl (T 0, 10, .inl af1)), (a2, .inl (T 0, 10, .inl af2)), (a3, .inl (T 0, 10, .inl af3)), (a4, .inl (T 0, 10, .inl af4)), (a5, .inl (T 0, 10, .inl af5)), (a6, .inl (T 0, 10, .inl af6)), (a7, .inl (T 0, 10, .inl af7)), (a9, .inl (T 0, 10, .inl af9))] H locs := V _ [0, 5, 0, 0, 0, 5] rfl rfl rfl (by decide +kernel) rfl
  show W p l e _ s m args below meth c H locs _ _ _ (F0 m 18 ls [])
  refine lv_aload_n hx hb dX4_minutesToEnd_18 rfl (lv_at hl 0 rfl) ?_
  refine lv_aload_n hx hb dX4_minutesToEnd_19 rfl (lv_at hl 1 rfl) ?_
  refine g_callVU (nA := 1) hC V hl.1 (e_meetPresent l D T e0 a0 e1 e2 0 e3 e4 e5 e6 ea g_1 an am al ao au a1 a2 a3 a4 a5 a6 a7 a8 a9 a10 af3 af6 af7 (by first | assumption | omega) (by first | assumption | omega) (by first | assumption | omega)) w_746 w_748 w_s24 w_18 w_749 (by decide +kernel) rfl ⟨(Nat.le_of_ble_eq_true rfl), (Nat.le_of_ble_eq_true rfl)⟩ 0 (ci := 4) rfl rfl [0, 1, 2, 7, 10, 13, 14] rfl rfl (Nat.le_of_ble_eq_true rfl) dX4_minutesToEnd_20 ⟨(Nat.le_of_ble_eq_true rfl), (Nat.le_of_ble_eq_true rfl)⟩ rfl (fun r w1 H locs hQ V => ?_)
  obtain ⟨em2_3, g1_4, g2_5, rfl, rfl, f_6, f_7, f_8⟩ := hQ
  have V : gW D T A s [(e0, .inr (4, [.ref e1, .ref e2, .int (nI em2_3), .ref e3, .ref e4, .ref e5, .ref e6])), (e1, .inl (T 1, 3001, .inr (.inl g1_4))), (e2, .inl (T 0, 8192, .inl g2_5)), (e3, .inl (T 0, 3, .inl ec)), (e4, .inl (T 0, 3, .inl ed)), (e5, .inl (T 0, 3, .inl ee)), (e6, .inl (T 0, 24, .inl g_2)), (a0, .inr (5, [.int (nI an), .int am, .int al, .int ao, .int au, .ref a1, .ref a2, .ref a3, .ref a4, .ref a5, .ref a6, .ref a7, .ref a8, .ref a9, .ref a10])), (a1, .inl (T 0, 10, .inl af1)), (a2, .inl (T 0, 10, .inl af2)), (a3, .inl (T 0, 10, .inl af3)), (a4, .inl (T 0, 10, .inl af4)), (a5, .inl (T 0, 10, .inl af5)), (a6, .inl (T 0, 10, .inl af6)), (a7, .inl (T 0, 10, .inl af7)), (a9, .inl (T 0, 10, .inl af9))] H locs := V _ [0, 0, 0, 4, 2, 2, 0] rfl rfl rfl (by decide +kernel) rfl
  show W p l e _ s m args below meth c H locs _ _ _ (F0 m 23 ls [])
  refine lv_iconst (v := (nI 0)) hx hb dX4_minutesToEnd_23 (by decide +kernel) ?_
  refine lv_istore_n (lv' := [(2, .int (nI 0)), (0, .ref e0), (1, .ref a0)]) hx hb dX4_minutesToEnd_24 rfl hl (by decide) rfl (fun ls hl => ?_)
  refine lv_iconst (v := (nI 1)) hx hb dX4_minutesToEnd_25 (by decide +kernel) ?_
  refine lv_istore_n (lv' := [(3, .int (nI 1)), (2, .int (nI 0)), (0, .ref e0), (1, .ref a0)]) hx hb dX4_minutesToEnd_26 rfl hl (by decide) rfl (fun ls hl => ?_)
  have L_9 : ∀ (fu : Nat) (kk : Nat) (fst : Nat) (mt : Nat) (fa : Nat → Int64) (fb : Nat → Int32) (fc : Nat → Int32) (fd : Nat → Int32) (fe : Nat → Int32), kk ≤ 3002 → fst ≤ mt → mt ≤ 3001 → (∀ i, i < 8192 → bd (fb i) (mt + 1)) → 3002 - kk < fu → ∀ (H : Heap) (locs : List Loc) (ls : Array Slot), gW D T A s [(e0, .inr (4, [.ref e1, .ref e2, .int (nI mt), .ref e3, .ref e4, .ref e5, .ref e6])), (e1, .inl (T 1, 3001, .inr (.inl fa))), (e2, .inl (T 0, 8192, .inl fb)), (e3, .inl (T 0, 3, .inl fc)), (e4, .inl (T 0, 3, .inl fd)), (e5, .inl (T 0, 3, .inl fe)), (e6, .inl (T 0, 24, .inl g_2)), (a0, .inr (5, [.int (nI an), .int am, .int al, .int ao, .int au, .ref a1, .ref a2, .ref a3, .ref a4, .ref a5, .ref a6, .ref a7, .ref a8, .ref a9, .ref a10])), (a1, .inl (T 0, 10, .inl af1)), (a2, .inl (T 0, 10, .inl af2)), (a3, .inl (T 0, 10, .inl af3)), (a4, .inl (T 0, 10, .inl af4)), (a5, .inl (T 0, 10, .inl af5)), (a6, .inl (T 0, 10, .inl af6)), (a7, .inl (T 0, 10, .inl af7)), (a9, .inl (T 0, 10, .inl af9))] H locs → lv_has ls 6 [(3, .int (nI kk)), (2, .int (nI fst)), (0, .ref e0), (1, .ref a0)] → W p l e (rmD 3 0 0) s m args below meth c H locs 0 0 (MQ below (gQ D A (q_e_minutes T e0 a0 e1 e2 em e3 e4 e5 e6 ea eb ec ed ee ef an am al ao au a1 a2 a3 a4 a5 a6 a7 a8 a9 a10 af1 af2 af3 af4 af5 af6 af7 af9)) args s 0 0 A) (F0 m 27 ls []) := by
    intro fu_27
    induction fu_27 with
    | zero => intro kk fst mt fa fb fc fd fe hkk hf1 hm2 hm3 hmu; exact absurd hmu (Nat.not_lt_zero _)
    | succ fu_27 ih_27 =>
      intro kk fst mt fa fb fc fd fe hkk hf1 hm2 hm3 hmu_27 H locs ls V hl
      refine lv_iload_n hx hb dX4_minutesToEnd_27 rfl (lv_at hl 0 rfl) ?_
      refine lv_sipush (v := (nI 3001)) hx hb dX4_minutesToEnd_28 (by decide +kernel) ?_
      refine lv_icmp_gt (tgt := 144) hx hb dX4_minutesToEnd_31 (by decide) (fun c_10 => ?_) (fun c_10 => ?_)
      · skip
        have c_10 := b_lt (by omega) (by omega) c_10
        refine lv_iconst (v := (-1)) hx hb dX4_minutesToEnd_144 (by decide +kernel) ?_
        exact g_iret (Qr := (q_e_minutes T e0 a0 e1 e2 em e3 e4 e5 e6 ea eb ec ed ee ef an am al ao au a1 a2 a3 a4 a5 a6 a7 a8 a9 a10 af1 af2 af3 af4 af5 af6 af7 af9)) hC V ⟨(Nat.le_of_ble_eq_true rfl), (Nat.le_of_ble_eq_true rfl)⟩ ⟨(-1), mt, fa, fb, fc, fd, fe, g_2, rfl, rfl, (by first | assumption | omega)⟩ dX4_minutesToEnd_145
      · skip
        have c_10 := b_nlt (by omega) (by omega) c_10
        refine lv_aload_n hx hb dX4_minutesToEnd_34 rfl (lv_at hl 2 rfl) ?_
        refine g_get hC V (ci := 4) uwX4 0 rfl rfl 2 (by decide) w_715 rfl rfl dX4_minutesToEnd_35 ?_
        refine lv_istore (lv' := [(4, .int (nI mt)), (3, .int (nI kk)), (2, .int (nI fst)), (0, .ref e0), (1, .ref a0)]) hx hb dX4_minutesToEnd_38 hl (by decide) rfl (fun ls hl => ?_)
        refine lv_iload_n hx hb dX4_minutesToEnd_40 rfl (lv_at hl 2 rfl) ?_
        refine lv_istore (lv' := [(5, .int (nI fst)), (4, .int (nI mt)), (3, .int (nI kk)), (2, .int (nI fst)), (0, .ref e0), (1, .ref a0)]) hx hb dX4_minutesToEnd_41 hl (by decide) rfl (fun ls hl => ?_)
        have L_11 : ∀ (fu : Nat) (ka : Nat) (fc2 : Nat → Int32) (fd2 : Nat → Int32), ka ≤ mt → mt - ka < fu → ∀ (H : Heap) (locs : List Loc) (ls : Array Slot), gW D T A s [(e0, .inr (4, [.ref e1, .ref e2, .int (nI mt), .ref e3, .ref e4, .ref e5, .ref e6])), (e1, .inl (T 1, 3001, .inr (.inl fa))), (e2, .inl (T 0, 8192, .inl fb)), (e3, .inl (T 0, 3, .inl fc2)), (e4, .inl (T 0, 3, .inl fd2)), (e5, .inl (T 0, 3, .inl fe)), (e6, .inl (T 0, 24, .inl g_2)), (a0, .inr (5, [.int (nI an), .int am, .int al, .int ao, .int au, .ref a1, .ref a2, .ref a3, .ref a4, .ref a5, .ref a6, .ref a7, .ref a8, .ref a9, .ref a10])), (a1, .inl (T 0, 10, .inl af1)), (a2, .inl (T 0, 10, .inl af2)), (a3, .inl (T 0, 10, .inl af3)), (a4, .inl (T 0, 10, .inl af4)), (a5, .inl (T 0, 10, .inl af5)), (a6, .inl (T 0, 10, .inl af6)), (a7, .inl (T 0, 10, .inl af7)), (a9, .inl (T 0, 10, .inl af9))] H locs → lv_has ls 6 [(5, .int (nI ka)), (4, .int (nI mt)), (3, .int (nI kk)), (2, .int (nI fst)), (0, .ref e0), (1, .ref a0)] → W p l e (rmD 3 0 0) s m args below meth c H locs 0 0 (MQ below (gQ D A (q_e_minutes T e0 a0 e1 e2 em e3 e4 e5 e6 ea eb ec ed ee ef an am al ao au a1 a2 a3 a4 a5 a6 a7 a8 a9 a10 af1 af2 af3 af4 af5 af6 af7 af9)) args s 0 0 A) (F0 m 43 ls []) := by
          intro fu_43
          induction fu_43 with
          | zero => intro ka fc2 fd2 hka hmu; exact absurd hmu (Nat.not_lt_zero _)
          | succ fu_43 ih_43 =>
            intro ka fc2 fd2 hka hmu_43 H locs ls V hl
            refine lv_iload hx hb dX4_minutesToEnd_43 (lv_at hl 0 rfl) ?_
            refine lv_iload hx hb dX4_minutesToEnd_45 (lv_at hl 1 rfl) ?_
            refine lv_icmp_ge (tgt := 73) hx hb dX4_minutesToEnd_47 (by decide) (fun c_12 => ?_) (fun c_12 => ?_)
            · skip
              have c_12 := b_le (by omega) (by omega) c_12
              refine lv_iload_n hx hb dX4_minutesToEnd_73 rfl (lv_at hl 3 rfl) ?_
              refine lv_istore (lv' := [(5, .int (nI fst)), (4, .int (nI mt)), (3, .int (nI kk)), (2, .int (nI fst)), (0, .ref e0), (1, .ref a0)]) hx hb dX4_minutesToEnd_74 hl (by decide) rfl (fun ls hl => ?_)
              have L_13 : ∀ (fu : Nat) (kb : Nat) (mu : Nat) (fa3 : Nat → Int64) (fb3 : Nat → Int32) (fc3 : Nat → Int32) (fd3 : Nat → Int32) (fe3 : Nat → Int32), kb ≤ mt → mt ≤ mu → mu ≤ 3001 → (∀ i, i < 8192 → bd (fb3 i) (mu + 1)) → mt - kb < fu → ∀ (H : Heap) (locs : List Loc) (ls : Array Slot), gW D T A s [(e0, .inr (4, [.ref e1, .ref e2, .int (nI mu), .ref e3, .ref e4, .ref e5, .ref e6])), (e1, .inl (T 1, 3001, .inr (.inl fa3))), (e2, .inl (T 0, 8192, .inl fb3)), (e3, .inl (T 0, 3, .inl fc3)), (e4, .inl (T 0, 3, .inl fd3)), (e5, .inl (T 0, 3, .inl fe3)), (e6, .inl (T 0, 24, .inl g_2)), (a0, .inr (5, [.int (nI an), .int am, .int al, .int ao, .int au, .ref a1, .ref a2, .ref a3, .ref a4, .ref a5, .ref a6, .ref a7, .ref a8, .ref a9, .ref a10])), (a1, .inl (T 0, 10, .inl af1)), (a2, .inl (T 0, 10, .inl af2)), (a3, .inl (T 0, 10, .inl af3)), (a4, .inl (T 0, 10, .inl af4)), (a5, .inl (T 0, 10, .inl af5)), (a6, .inl (T 0, 10, .inl af6)), (a7, .inl (T 0, 10, .inl af7)), (a9, .inl (T 0, 10, .inl af9))] H locs → lv_has ls 6 [(5, .int (nI kb)), (4, .int (nI mt)), (3, .int (nI kk)), (2, .int (nI fst)), (0, .ref e0), (1, .ref a0)] → W p l e (rmD 3 0 0) s m args below meth c H locs 0 0 (MQ below (gQ D A (q_e_minutes T e0 a0 e1 e2 em e3 e4 e5 e6 ea eb ec ed ee ef an am al ao au a1 a2 a3 a4 a5 a6 a7 a8 a9 a10 af1 af2 af3 af4 af5 af6 af7 af9)) args s 0 0 A) (F0 m 76 ls []) := by
                intro fu_76
                induction fu_76 with
                | zero => intro kb mu fa3 fb3 fc3 fd3 fe3 hkb hu1 hu2 hu3 hmu; exact absurd hmu (Nat.not_lt_zero _)
                | succ fu_76 ih_76 =>
                  intro kb mu fa3 fb3 fc3 fd3 fe3 hkb hu1 hu2 hu3 hmu_76 H locs ls V hl
                  refine lv_iload hx hb dX4_minutesToEnd_76 (lv_at hl 0 rfl) ?_
                  refine lv_iload hx hb dX4_minutesToEnd_78 (lv_at hl 1 rfl) ?_
                  refine lv_icmp_ge (tgt := 111) hx hb dX4_minutesToEnd_80 (by decide) (fun c_14 => ?_) (fun c_14 => ?_)
                  · skip
                    have c_14 := b_le (by omega) (by omega) c_14
                    refine lv_aload_n hx hb dX4_minutesToEnd_111 rfl (lv_at hl 4 rfl) ?_
                    refine g_get hC V (ci := 4) uwX4 0 rfl rfl 2 (by decide) w_715 rfl rfl dX4_minutesToEnd_112 ?_
                    refine lv_sipush (v := (nI 3000)) hx hb dX4_minutesToEnd_115 (by decide +kernel) ?_
                    refine lv_icmp_le (tgt := 124) hx hb dX4_minutesToEnd_118 (by decide) (fun c_15 => ?_) (fun c_15 => ?_)
                    · skip
                      have c_15 := b_le (by omega) (by omega) c_15
                      refine lv_aload_n hx hb dX4_minutesToEnd_124 rfl (lv_at hl 4 rfl) ?_
                      refine g_get hC V (ci := 4) uwX4 0 rfl rfl 2 (by decide) w_715 rfl rfl dX4_minutesToEnd_125 ?_
                      refine lv_iload hx hb dX4_minutesToEnd_128 (lv_at hl 1 rfl) ?_
                      refine lv_icmp_ne (tgt := 135) hx hb dX4_minutesToEnd_130 (by decide) (fun c_16 => ?_) (fun c_16 => ?_)
                      · skip
                        have c_16 := b_ne (by omega) (by omega) c_16
                        refine lv_iload hx hb dX4_minutesToEnd_135 (lv_at hl 1 rfl) ?_
                        refine lv_istore_n (lv' := [(2, .int (nI mt)), (5, .int (nI kb)), (4, .int (nI mt)), (3, .int (nI kk)), (0, .ref e0), (1, .ref a0)]) hx hb dX4_minutesToEnd_137 rfl hl (by decide) rfl (fun ls hl => ?_)
                        refine lv_iinc (v := (nI (kk + 1))) (lv' := [(3, .int (nI (kk + 1))), (2, .int (nI mt)), (5, .int (nI kb)), (4, .int (nI mt)), (0, .ref e0), (1, .ref a0)]) hx hb dX4_minutesToEnd_138 hl (k := 3) rfl (nI_1 _) (by decide) rfl (fun ls hl => ?_)
                        refine lv_goto (tgt := 27) hx hb dX4_minutesToEnd_141 (by decide) ?_
                        exact ih_27 (kk + 1) mt mu fa3 fb3 fc3 fd3 fe3 (by omega) (by omega) (by omega) (by assumption) (by omega) _ _ _ V (lv_sub hl [0, 1, 4, 5] rfl)
                      · skip
                        have c_16 := b_eq (by omega) (by omega) c_16
                        refine lv_iconst (v := (-1)) hx hb dX4_minutesToEnd_133 (by decide +kernel) ?_
                        exact g_iret (Qr := (q_e_minutes T e0 a0 e1 e2 em e3 e4 e5 e6 ea eb ec ed ee ef an am al ao au a1 a2 a3 a4 a5 a6 a7 a8 a9 a10 af1 af2 af3 af4 af5 af6 af7 af9)) hC V ⟨(Nat.le_of_ble_eq_true rfl), (Nat.le_of_ble_eq_true rfl)⟩ ⟨(-1), mu, fa3, fb3, fc3, fd3, fe3, g_2, rfl, rfl, (by first | assumption | omega)⟩ dX4_minutesToEnd_134
                    · skip
                      have c_15 := b_nle (by omega) (by omega) c_15
                      refine lv_bipush (v := (-4)) hx hb dX4_minutesToEnd_121 (by decide +kernel) ?_
                      exact g_iret (Qr := (q_e_minutes T e0 a0 e1 e2 em e3 e4 e5 e6 ea eb ec ed ee ef an am al ao au a1 a2 a3 a4 a5 a6 a7 a8 a9 a10 af1 af2 af3 af4 af5 af6 af7 af9)) hC V ⟨(Nat.le_of_ble_eq_true rfl), (Nat.le_of_ble_eq_true rfl)⟩ ⟨(-4), mu, fa3, fb3, fc3, fd3, fe3, g_2, rfl, rfl, (by first | assumption | omega)⟩ dX4_minutesToEnd_123
                  · skip
                    have c_14 := b_nle (by omega) (by omega) c_14
                    refine lv_aload_n hx hb dX4_minutesToEnd_83 rfl (lv_at hl 4 rfl) ?_
                    refine g_get hC V (ci := 4) uwX4 0 rfl rfl 2 (by decide) w_715 rfl rfl dX4_minutesToEnd_84 ?_
                    refine lv_sipush (v := (nI 3000)) hx hb dX4_minutesToEnd_87 (by decide +kernel) ?_
                    refine lv_icmp_gt (tgt := 111) hx hb dX4_minutesToEnd_90 (by decide) (fun c_17 => ?_) (fun c_17 => ?_)
                    · skip
                      have c_17 := b_lt (by omega) (by omega) c_17
                      refine lv_aload_n hx hb dX4_minutesToEnd_111 rfl (lv_at hl 4 rfl) ?_
                      refine g_get hC V (ci := 4) uwX4 0 rfl rfl 2 (by decide) w_715 rfl rfl dX4_minutesToEnd_112 ?_
                      refine lv_sipush (v := (nI 3000)) hx hb dX4_minutesToEnd_115 (by decide +kernel) ?_
                      refine lv_icmp_le (tgt := 124) hx hb dX4_minutesToEnd_118 (by decide) (fun c_18 => ?_) (fun c_18 => ?_)
                      · skip
                        have c_18 := b_le (by omega) (by omega) c_18
                        refine lv_aload_n hx hb dX4_minutesToEnd_124 rfl (lv_at hl 4 rfl) ?_
                        refine g_get hC V (ci := 4) uwX4 0 rfl rfl 2 (by decide) w_715 rfl rfl dX4_minutesToEnd_125 ?_
                        refine lv_iload hx hb dX4_minutesToEnd_128 (lv_at hl 1 rfl) ?_
                        refine lv_icmp_ne (tgt := 135) hx hb dX4_minutesToEnd_130 (by decide) (fun c_19 => ?_) (fun c_19 => ?_)
                        · skip
                          have c_19 := b_ne (by omega) (by omega) c_19
                          refine lv_iload hx hb dX4_minutesToEnd_135 (lv_at hl 1 rfl) ?_
                          refine lv_istore_n (lv' := [(2, .int (nI mt)), (5, .int (nI kb)), (4, .int (nI mt)), (3, .int (nI kk)), (0, .ref e0), (1, .ref a0)]) hx hb dX4_minutesToEnd_137 rfl hl (by decide) rfl (fun ls hl => ?_)
                          refine lv_iinc (v := (nI (kk + 1))) (lv' := [(3, .int (nI (kk + 1))), (2, .int (nI mt)), (5, .int (nI kb)), (4, .int (nI mt)), (0, .ref e0), (1, .ref a0)]) hx hb dX4_minutesToEnd_138 hl (k := 3) rfl (nI_1 _) (by decide) rfl (fun ls hl => ?_)
                          refine lv_goto (tgt := 27) hx hb dX4_minutesToEnd_141 (by decide) ?_
                          exact ih_27 (kk + 1) mt mu fa3 fb3 fc3 fd3 fe3 (by omega) (by omega) (by omega) (by assumption) (by omega) _ _ _ V (lv_sub hl [0, 1, 4, 5] rfl)
                        · skip
                          have c_19 := b_eq (by omega) (by omega) c_19
                          refine lv_iconst (v := (-1)) hx hb dX4_minutesToEnd_133 (by decide +kernel) ?_
                          exact g_iret (Qr := (q_e_minutes T e0 a0 e1 e2 em e3 e4 e5 e6 ea eb ec ed ee ef an am al ao au a1 a2 a3 a4 a5 a6 a7 a8 a9 a10 af1 af2 af3 af4 af5 af6 af7 af9)) hC V ⟨(Nat.le_of_ble_eq_true rfl), (Nat.le_of_ble_eq_true rfl)⟩ ⟨(-1), mu, fa3, fb3, fc3, fd3, fe3, g_2, rfl, rfl, (by first | assumption | omega)⟩ dX4_minutesToEnd_134
                      · skip
                        have c_18 := b_nle (by omega) (by omega) c_18
                        refine lv_bipush (v := (-4)) hx hb dX4_minutesToEnd_121 (by decide +kernel) ?_
                        exact g_iret (Qr := (q_e_minutes T e0 a0 e1 e2 em e3 e4 e5 e6 ea eb ec ed ee ef an am al ao au a1 a2 a3 a4 a5 a6 a7 a8 a9 a10 af1 af2 af3 af4 af5 af6 af7 af9)) hC V ⟨(Nat.le_of_ble_eq_true rfl), (Nat.le_of_ble_eq_true rfl)⟩ ⟨(-4), mu, fa3, fb3, fc3, fd3, fe3, g_2, rfl, rfl, (by first | assumption | omega)⟩ dX4_minutesToEnd_123
                    · skip
                      have c_17 := b_nlt (by omega) (by omega) c_17
                      refine lv_aload_n hx hb dX4_minutesToEnd_93 rfl (lv_at hl 4 rfl) ?_
                      refine lv_aload_n hx hb dX4_minutesToEnd_94 rfl (lv_at hl 5 rfl) ?_
                      refine lv_aload_n hx hb dX4_minutesToEnd_95 rfl (lv_at hl 4 rfl) ?_
                      refine g_get hC V (ci := 4) uwX4 0 rfl rfl 0 (by decide) w_713 rfl rfl dX4_minutesToEnd_96 ?_
                      refine lv_iload hx hb dX4_minutesToEnd_99 (lv_at hl 0 rfl) ?_
                      refine g_lald hC V 1 rfl (vp_in_nI (by omega) (by omega)) (v := (fa3 kb)) (congrArg _ (nI_clamp (by omega))) dX4_minutesToEnd_101 ?_
                      refine g_callVU (nA := 2) hC V hl.1 (e_goOn l D T e0 a0 (fa3 kb) e1 e2 mu e3 e4 e5 e6 fa3 fb3 fc3 fd3 fe3 g_2 an am al ao au a1 a2 a3 a4 a5 a6 a7 a8 a9 a10 af4 af5 af6 (by first | assumption | omega) (by first | assumption | omega) (by first | assumption | omega)) w_772 w_774 w_s29 w_18 w_775 (by decide +kernel) rfl ⟨(Nat.le_of_ble_eq_true rfl), (Nat.le_of_ble_eq_true rfl)⟩ 0 (ci := 4) rfl rfl [0, 1, 2, 3, 4, 5, 6, 7, 11, 12, 13] rfl rfl (Nat.le_of_ble_eq_true rfl) dX4_minutesToEnd_102 ⟨(Nat.le_of_ble_eq_true rfl), (Nat.le_of_ble_eq_true rfl)⟩ rfl (fun r w1 H locs hQ V => ?_)
                      obtain ⟨em2_20, g1_21, g2_22, gc_23, gd_24, ge_25, rfl, rfl, f_26, f_27, f_28⟩ := hQ
                      have V : gW D T A s [(e0, .inr (4, [.ref e1, .ref e2, .int (nI em2_20), .ref e3, .ref e4, .ref e5, .ref e6])), (e1, .inl (T 1, 3001, .inr (.inl g1_21))), (e2, .inl (T 0, 8192, .inl g2_22)), (e3, .inl (T 0, 3, .inl gc_23)), (e4, .inl (T 0, 3, .inl gd_24)), (e5, .inl (T 0, 3, .inl ge_25)), (e6, .inl (T 0, 24, .inl g_2)), (a0, .inr (5, [.int (nI an), .int am, .int al, .int ao, .int au, .ref a1, .ref a2, .ref a3, .ref a4, .ref a5, .ref a6, .ref a7, .ref a8, .ref a9, .ref a10])), (a1, .inl (T 0, 10, .inl af1)), (a2, .inl (T 0, 10, .inl af2)), (a3, .inl (T 0, 10, .inl af3)), (a4, .inl (T 0, 10, .inl af4)), (a5, .inl (T 0, 10, .inl af5)), (a6, .inl (T 0, 10, .inl af6)), (a7, .inl (T 0, 10, .inl af7)), (a9, .inl (T 0, 10, .inl af9))] H locs := V _ [0, 0, 0, 0, 0, 0, 0, 0, 3, 0, 0] rfl rfl rfl (by decide +kernel) rfl
                      show W p l e _ s m args below meth c H locs _ _ _ (F0 m 105 ls [])
                      refine lv_iinc (v := (nI (kb + 1))) (lv' := [(5, .int (nI (kb + 1))), (4, .int (nI mt)), (3, .int (nI kk)), (2, .int (nI fst)), (0, .ref e0), (1, .ref a0)]) hx hb dX4_minutesToEnd_105 hl (k := 0) rfl (nI_1 _) (by decide) rfl (fun ls hl => ?_)
                      refine lv_goto (tgt := 76) hx hb dX4_minutesToEnd_108 (by decide) ?_
                      exact ih_76 (kb + 1) em2_20 g1_21 g2_22 gc_23 gd_24 ge_25 (by omega) (by omega) (by omega) (by assumption) (by omega) _ _ _ V (lv_sub hl [0, 1, 2, 3, 4, 5] rfl)
              exact L_13 _ fst mt fa fb fc2 fd2 fe (by omega) (by omega) (by omega) (by assumption) (Nat.lt_succ_self _) _ _ _ V (lv_sub hl [0, 1, 2, 3, 4, 5] rfl)
            · skip
              have c_12 := b_nle (by omega) (by omega) c_12
              refine lv_aload_n hx hb dX4_minutesToEnd_50 rfl (lv_at hl 4 rfl) ?_
              refine lv_aload_n hx hb dX4_minutesToEnd_51 rfl (lv_at hl 5 rfl) ?_
              refine lv_aload_n hx hb dX4_minutesToEnd_52 rfl (lv_at hl 4 rfl) ?_
              refine g_get hC V (ci := 4) uwX4 0 rfl rfl 0 (by decide) w_713 rfl rfl dX4_minutesToEnd_53 ?_
              refine lv_iload hx hb dX4_minutesToEnd_56 (lv_at hl 0 rfl) ?_
              refine g_lald hC V 1 rfl (vp_in_nI (by omega) (by omega)) (v := (fa ka)) (congrArg _ (nI_clamp (by omega))) dX4_minutesToEnd_58 ?_
              refine g_callVU (nA := 2) hC V hl.1 (e_endsNext l D T e0 a0 (fa ka) e1 e2 mt e3 e4 e5 e6 fc2 fd2 an am al ao au a1 a2 a3 a4 a5 a6 a7 a8 a9 a10 af4 af5 af6 (by first | assumption | omega)) w_759 w_761 w_s26 w_18 w_762 (by decide +kernel) rfl ⟨(Nat.le_of_ble_eq_true rfl), (Nat.le_of_ble_eq_true rfl)⟩ 0 (ci := 4) rfl rfl [0, 3, 4, 7, 11, 12, 13] rfl rfl (Nat.le_of_ble_eq_true rfl) dX4_minutesToEnd_59 ⟨(Nat.le_of_ble_eq_true rfl), (Nat.le_of_ble_eq_true rfl)⟩ rfl (fun r w1 H locs hQ V => ?_)
              rcases hQ with ⟨gc_29, gd_30, rfl, rfl⟩ | ⟨gc_31, gd_32, rfl, rfl⟩
              · have V : gW D T A s [(e0, .inr (4, [.ref e1, .ref e2, .int (nI mt), .ref e3, .ref e4, .ref e5, .ref e6])), (e1, .inl (T 1, 3001, .inr (.inl fa))), (e2, .inl (T 0, 8192, .inl fb)), (e3, .inl (T 0, 3, .inl gc_29)), (e4, .inl (T 0, 3, .inl gd_30)), (e5, .inl (T 0, 3, .inl fe)), (e6, .inl (T 0, 24, .inl g_2)), (a0, .inr (5, [.int (nI an), .int am, .int al, .int ao, .int au, .ref a1, .ref a2, .ref a3, .ref a4, .ref a5, .ref a6, .ref a7, .ref a8, .ref a9, .ref a10])), (a1, .inl (T 0, 10, .inl af1)), (a2, .inl (T 0, 10, .inl af2)), (a3, .inl (T 0, 10, .inl af3)), (a4, .inl (T 0, 10, .inl af4)), (a5, .inl (T 0, 10, .inl af5)), (a6, .inl (T 0, 10, .inl af6)), (a7, .inl (T 0, 10, .inl af7)), (a9, .inl (T 0, 10, .inl af9))] H locs := V _ [0, 2, 0, 2, 3, 0, 0] rfl rfl rfl (by decide +kernel) rfl
                show W p l e _ s m args below meth c H locs _ _ _ (F0 m 62 ls [.int (nI 1)])
                refine lv_if_eq (tgt := 67) hx hb dX4_minutesToEnd_62 (by decide) (fun c => absurd (show (nI 1) = 0 from c) (by decide +kernel)) (fun _ => ?_)
                refine lv_iload_n hx hb dX4_minutesToEnd_65 rfl (lv_at hl 2 rfl) ?_
                exact g_iret (Qr := (q_e_minutes T e0 a0 e1 e2 em e3 e4 e5 e6 ea eb ec ed ee ef an am al ao au a1 a2 a3 a4 a5 a6 a7 a8 a9 a10 af1 af2 af3 af4 af5 af6 af7 af9)) hC V ⟨(Nat.le_of_ble_eq_true rfl), (Nat.le_of_ble_eq_true rfl)⟩ ⟨(nI kk), mt, fa, fb, gc_29, gd_30, fe, g_2, rfl, rfl, (by first | assumption | omega)⟩ dX4_minutesToEnd_66
              · have V : gW D T A s [(e0, .inr (4, [.ref e1, .ref e2, .int (nI mt), .ref e3, .ref e4, .ref e5, .ref e6])), (e1, .inl (T 1, 3001, .inr (.inl fa))), (e2, .inl (T 0, 8192, .inl fb)), (e3, .inl (T 0, 3, .inl gc_31)), (e4, .inl (T 0, 3, .inl gd_32)), (e5, .inl (T 0, 3, .inl fe)), (e6, .inl (T 0, 24, .inl g_2)), (a0, .inr (5, [.int (nI an), .int am, .int al, .int ao, .int au, .ref a1, .ref a2, .ref a3, .ref a4, .ref a5, .ref a6, .ref a7, .ref a8, .ref a9, .ref a10])), (a1, .inl (T 0, 10, .inl af1)), (a2, .inl (T 0, 10, .inl af2)), (a3, .inl (T 0, 10, .inl af3)), (a4, .inl (T 0, 10, .inl af4)), (a5, .inl (T 0, 10, .inl af5)), (a6, .inl (T 0, 10, .inl af6)), (a7, .inl (T 0, 10, .inl af7)), (a9, .inl (T 0, 10, .inl af9))] H locs := V _ [0, 2, 0, 2, 3, 0, 0] rfl rfl rfl (by decide +kernel) rfl
                show W p l e _ s m args below meth c H locs _ _ _ (F0 m 62 ls [.int (nI 0)])
                refine lv_if_eq (tgt := 67) hx hb dX4_minutesToEnd_62 (by decide) (fun _ => ?_) (fun c => absurd (show (nI 0) = 0 by decide +kernel) c)
                refine lv_iinc (v := (nI (ka + 1))) (lv' := [(5, .int (nI (ka + 1))), (4, .int (nI mt)), (3, .int (nI kk)), (2, .int (nI fst)), (0, .ref e0), (1, .ref a0)]) hx hb dX4_minutesToEnd_67 hl (k := 0) rfl (nI_1 _) (by decide) rfl (fun ls hl => ?_)
                refine lv_goto (tgt := 43) hx hb dX4_minutesToEnd_70 (by decide) ?_
                exact ih_43 (ka + 1) gc_31 gd_32 (by omega) (by omega) _ _ _ V (lv_sub hl [0, 1, 2, 3, 4, 5] rfl)
        exact L_11 _ fst fc fd (by omega) (Nat.lt_succ_self _) _ _ _ V (lv_sub hl [0, 1, 2, 3, 4, 5] rfl)
  exact L_9 _ 1 0 em2_3 g1_4 g2_5 ec ed ee (by omega) (by omega) (by omega) (by assumption) (Nat.lt_succ_self _) _ _ _ V (lv_sub hl [0, 1, 2, 3] rfl)
