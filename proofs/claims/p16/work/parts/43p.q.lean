def q_f_kindAt (T : Nat → ClassId) (ft : Nat → Int32) (t0 : Nat) (j : Nat) (tf : Int32) (tu : Int32) (tl : Int32) (t1 : Nat) (sz : Nat) (tk : Int32) (tr : Int32) (tb : Int32) (tx : Nat → Int32) : Option Value → va_W → Prop := fun rr ww => (∃ (z : Nat), rr = some (.int (nI z)) ∧ ww = [(t0, .inr (2, [.int tf, .int tu, .int tl, .ref t1, .int (nI sz), .int tk, .int tr, .int tb])), (t1, .inl (T 3, 900, .inl tx))] ∧ z = ckA ft sz j)
set_option maxHeartbeats 4000000 in
set_option maxRecDepth 100000 in
theorem f_kindAt (l : Launch) (D : va_G) (T : Nat → ClassId) (ft : Nat → Int32) (t0 : Nat) (j : Nat) (tf : Int32) (tu : Int32) (tl : Int32) (t1 : Nat) (sz : Nat) (tk : Int32) (tr : Int32) (tb : Int32) (tx : Nat → Int32) (h_sz : sz ≤ 900) (h_tx : TXT sz tx ft) (h_j : j ≤ sz) : Ct l yX2_kindAt cX2_kindAt 3 (some .int) 0 0 0 D T [.ref t0, .int (nI j)] [(t0, .inr (2, [.int tf, .int tu, .int tl, .ref t1, .int (nI sz), .int tk, .int tr, .int tb])), (t1, .inl (T 3, 900, .inl tx))] (q_f_kindAt T ft t0 j tf tu tl t1 sz tk tr tb tx) := by
  refine Ct.of (cc := cX2_kindAt) (maxL := 3) (ret := (some .int)) (by decide) (Nat.le_of_ble_eq_true rfl) ?_
  intro p e s m args below meth c A ls hC hnm V hl
  obtain ⟨hx, hb, hr, hml, hown, hts, hlocks⟩ := id hC
  generalize hH : s.heap = H at V ⊢
  clear hH
  have hl : lv_has ls 3 [(0, .ref t0), (1, .int (nI j))] := hl
  generalize hlo : ([] : List Loc) = locs at V ⊢
  clear hlo
  refine lv_iload_n hx hb dX2_kindAt_0 rfl (lv_at hl 1 rfl) ?_
  refine lv_aload_n hx hb dX2_kindAt_1 rfl (lv_at hl 0 rfl) ?_
  refine g_get hC V (ci := 2) uwX2 0 rfl rfl 4 (by decide) w_135 rfl rfl dX2_kindAt_2 ?_
  refine lv_icmp_lt (tgt := 10) hx hb dX2_kindAt_5 (by decide) (fun c_1 => ?_) (fun c_1 => ?_)
  · skip
    have c_1 := b_lt (by omega) (by omega) c_1
    refine lv_aload_n hx hb dX2_kindAt_10 rfl (lv_at hl 0 rfl) ?_
    refine g_get hC V (ci := 2) uwX2 0 rfl rfl 3 (by decide) w_134 rfl rfl dX2_kindAt_11 ?_
    refine lv_iload_n hx hb dX2_kindAt_14 rfl (lv_at hl 1 rfl) ?_
    refine g_bald hC V 1 rfl (vp_in_nI (by omega) (by omega)) (v := (tx j)) (congrArg _ (nI_clamp (by omega))) dX2_kindAt_15 ?_
    refine lv_istore_n (lv' := [(2, .int (tx j)), (0, .ref t0), (1, .int (nI j))]) hx hb dX2_kindAt_16 rfl hl (by decide) rfl (fun ls hl => ?_)
    refine lv_iload_n hx hb dX2_kindAt_17 rfl (lv_at hl 0 rfl) ?_
    refine lv_bipush (v := (nI 97)) hx hb dX2_kindAt_18 (by decide +kernel) ?_
    refine lv_icmp_lt (tgt := 31) hx hb dX2_kindAt_20 (by decide) (fun c_2 => ?_) (fun c_2 => ?_)
    · skip
      refine lv_iload_n hx hb dX2_kindAt_31 rfl (lv_at hl 0 rfl) ?_
      refine lv_bipush (v := (nI 48)) hx hb dX2_kindAt_32 (by decide +kernel) ?_
      refine lv_icmp_lt (tgt := 45) hx hb dX2_kindAt_34 (by decide) (fun c_3 => ?_) (fun c_3 => ?_)
      · skip
        refine lv_iload_n hx hb dX2_kindAt_45 rfl (lv_at hl 0 rfl) ?_
        refine lv_bipush (v := (nI 10)) hx hb dX2_kindAt_46 (by decide +kernel) ?_
        refine lv_icmp_eq (tgt := 57) hx hb dX2_kindAt_48 (by decide) (fun c_4 => ?_) (fun c_4 => ?_)
        · skip
          refine lv_iconst (v := (nI 4)) hx hb dX2_kindAt_57 (by decide +kernel) ?_
          exact g_iret (Qr := (q_f_kindAt T ft t0 j tf tu tl t1 sz tk tr tb tx)) hC V ⟨(Nat.le_of_ble_eq_true rfl), (Nat.le_of_ble_eq_true rfl)⟩ ⟨4, rfl, rfl, (ck_mk h_tx (by omega) (ckS_4 (by first | exact Or.inl (by assumption) | exact Or.inr (by assumption)) (by first | exact Or.inl (by assumption) | exact Or.inr (by assumption)) (by first | exact Or.inl (by assumption) | exact Or.inr (by assumption))))⟩ dX2_kindAt_58
        · skip
          refine lv_iload_n hx hb dX2_kindAt_51 rfl (lv_at hl 0 rfl) ?_
          refine lv_bipush (v := (nI 32)) hx hb dX2_kindAt_52 (by decide +kernel) ?_
          refine lv_icmp_ne (tgt := 59) hx hb dX2_kindAt_54 (by decide) (fun c_5 => ?_) (fun c_5 => ?_)
          · skip
            refine lv_iload_n hx hb dX2_kindAt_59 rfl (lv_at hl 0 rfl) ?_
            refine lv_bipush (v := (nI 59)) hx hb dX2_kindAt_60 (by decide +kernel) ?_
            refine lv_icmp_ne (tgt := 69) hx hb dX2_kindAt_62 (by decide) (fun c_6 => ?_) (fun c_6 => ?_)
            · skip
              refine lv_bipush (v := (nI 6)) hx hb dX2_kindAt_69 (by decide +kernel) ?_
              exact g_iret (Qr := (q_f_kindAt T ft t0 j tf tu tl t1 sz tk tr tb tx)) hC V ⟨(Nat.le_of_ble_eq_true rfl), (Nat.le_of_ble_eq_true rfl)⟩ ⟨6, rfl, rfl, (ck_mk h_tx (by omega) (ckS_6 (by first | exact Or.inl (by assumption) | exact Or.inr (by assumption)) (by first | exact Or.inl (by assumption) | exact Or.inr (by assumption)) (by assumption) (by assumption) (by assumption)))⟩ dX2_kindAt_71
            · skip
              refine lv_iconst (v := (nI 3)) hx hb dX2_kindAt_65 (by decide +kernel) ?_
              refine lv_goto (tgt := 71) hx hb dX2_kindAt_66 (by decide) ?_
              exact g_iret (Qr := (q_f_kindAt T ft t0 j tf tu tl t1 sz tk tr tb tx)) hC V ⟨(Nat.le_of_ble_eq_true rfl), (Nat.le_of_ble_eq_true rfl)⟩ ⟨3, rfl, rfl, (ck_mk h_tx (by omega) (ckS_3 (by first | exact Or.inl (by assumption) | exact Or.inr (by assumption)) (by first | exact Or.inl (by assumption) | exact Or.inr (by assumption)) (by assumption) (by assumption) (by assumption)))⟩ dX2_kindAt_71
          · skip
            refine lv_iconst (v := (nI 4)) hx hb dX2_kindAt_57 (by decide +kernel) ?_
            exact g_iret (Qr := (q_f_kindAt T ft t0 j tf tu tl t1 sz tk tr tb tx)) hC V ⟨(Nat.le_of_ble_eq_true rfl), (Nat.le_of_ble_eq_true rfl)⟩ ⟨4, rfl, rfl, (ck_mk h_tx (by omega) (ckS_4 (by first | exact Or.inl (by assumption) | exact Or.inr (by assumption)) (by first | exact Or.inl (by assumption) | exact Or.inr (by assumption)) (by first | exact Or.inl (by assumption) | exact Or.inr (by assumption))))⟩ dX2_kindAt_58
      · skip
        refine lv_iload_n hx hb dX2_kindAt_37 rfl (lv_at hl 0 rfl) ?_
        refine lv_bipush (v := (nI 57)) hx hb dX2_kindAt_38 (by decide +kernel) ?_
        refine lv_icmp_gt (tgt := 45) hx hb dX2_kindAt_40 (by decide) (fun c_7 => ?_) (fun c_7 => ?_)
        · skip
          refine lv_iload_n hx hb dX2_kindAt_45 rfl (lv_at hl 0 rfl) ?_
          refine lv_bipush (v := (nI 10)) hx hb dX2_kindAt_46 (by decide +kernel) ?_
          refine lv_icmp_eq (tgt := 57) hx hb dX2_kindAt_48 (by decide) (fun c_8 => ?_) (fun c_8 => ?_)
          · skip
            refine lv_iconst (v := (nI 4)) hx hb dX2_kindAt_57 (by decide +kernel) ?_
            exact g_iret (Qr := (q_f_kindAt T ft t0 j tf tu tl t1 sz tk tr tb tx)) hC V ⟨(Nat.le_of_ble_eq_true rfl), (Nat.le_of_ble_eq_true rfl)⟩ ⟨4, rfl, rfl, (ck_mk h_tx (by omega) (ckS_4 (by first | exact Or.inl (by assumption) | exact Or.inr (by assumption)) (by first | exact Or.inl (by assumption) | exact Or.inr (by assumption)) (by first | exact Or.inl (by assumption) | exact Or.inr (by assumption))))⟩ dX2_kindAt_58
          · skip
            refine lv_iload_n hx hb dX2_kindAt_51 rfl (lv_at hl 0 rfl) ?_
            refine lv_bipush (v := (nI 32)) hx hb dX2_kindAt_52 (by decide +kernel) ?_
            refine lv_icmp_ne (tgt := 59) hx hb dX2_kindAt_54 (by decide) (fun c_9 => ?_) (fun c_9 => ?_)
            · skip
              refine lv_iload_n hx hb dX2_kindAt_59 rfl (lv_at hl 0 rfl) ?_
              refine lv_bipush (v := (nI 59)) hx hb dX2_kindAt_60 (by decide +kernel) ?_
              refine lv_icmp_ne (tgt := 69) hx hb dX2_kindAt_62 (by decide) (fun c_10 => ?_) (fun c_10 => ?_)
              · skip
                refine lv_bipush (v := (nI 6)) hx hb dX2_kindAt_69 (by decide +kernel) ?_
                exact g_iret (Qr := (q_f_kindAt T ft t0 j tf tu tl t1 sz tk tr tb tx)) hC V ⟨(Nat.le_of_ble_eq_true rfl), (Nat.le_of_ble_eq_true rfl)⟩ ⟨6, rfl, rfl, (ck_mk h_tx (by omega) (ckS_6 (by first | exact Or.inl (by assumption) | exact Or.inr (by assumption)) (by first | exact Or.inl (by assumption) | exact Or.inr (by assumption)) (by assumption) (by assumption) (by assumption)))⟩ dX2_kindAt_71
              · skip
                refine lv_iconst (v := (nI 3)) hx hb dX2_kindAt_65 (by decide +kernel) ?_
                refine lv_goto (tgt := 71) hx hb dX2_kindAt_66 (by decide) ?_
                exact g_iret (Qr := (q_f_kindAt T ft t0 j tf tu tl t1 sz tk tr tb tx)) hC V ⟨(Nat.le_of_ble_eq_true rfl), (Nat.le_of_ble_eq_true rfl)⟩ ⟨3, rfl, rfl, (ck_mk h_tx (by omega) (ckS_3 (by first | exact Or.inl (by assumption) | exact Or.inr (by assumption)) (by first | exact Or.inl (by assumption) | exact Or.inr (by assumption)) (by assumption) (by assumption) (by assumption)))⟩ dX2_kindAt_71
            · skip
              refine lv_iconst (v := (nI 4)) hx hb dX2_kindAt_57 (by decide +kernel) ?_
              exact g_iret (Qr := (q_f_kindAt T ft t0 j tf tu tl t1 sz tk tr tb tx)) hC V ⟨(Nat.le_of_ble_eq_true rfl), (Nat.le_of_ble_eq_true rfl)⟩ ⟨4, rfl, rfl, (ck_mk h_tx (by omega) (ckS_4 (by first | exact Or.inl (by assumption) | exact Or.inr (by assumption)) (by first | exact Or.inl (by assumption) | exact Or.inr (by assumption)) (by first | exact Or.inl (by assumption) | exact Or.inr (by assumption))))⟩ dX2_kindAt_58
        · skip
          refine lv_iconst (v := (nI 2)) hx hb dX2_kindAt_43 (by decide +kernel) ?_
          exact g_iret (Qr := (q_f_kindAt T ft t0 j tf tu tl t1 sz tk tr tb tx)) hC V ⟨(Nat.le_of_ble_eq_true rfl), (Nat.le_of_ble_eq_true rfl)⟩ ⟨2, rfl, rfl, (ck_mk h_tx (by omega) (ckS_2 (by first | exact Or.inl (by assumption) | exact Or.inr (by assumption)) (by assumption) (by assumption)))⟩ dX2_kindAt_44
    · skip
      refine lv_iload_n hx hb dX2_kindAt_23 rfl (lv_at hl 0 rfl) ?_
      refine lv_bipush (v := (nI 122)) hx hb dX2_kindAt_24 (by decide +kernel) ?_
      refine lv_icmp_gt (tgt := 31) hx hb dX2_kindAt_26 (by decide) (fun c_11 => ?_) (fun c_11 => ?_)
      · skip
        refine lv_iload_n hx hb dX2_kindAt_31 rfl (lv_at hl 0 rfl) ?_
        refine lv_bipush (v := (nI 48)) hx hb dX2_kindAt_32 (by decide +kernel) ?_
        refine lv_icmp_lt (tgt := 45) hx hb dX2_kindAt_34 (by decide) (fun c_12 => ?_) (fun c_12 => ?_)
        · skip
          refine lv_iload_n hx hb dX2_kindAt_45 rfl (lv_at hl 0 rfl) ?_
          refine lv_bipush (v := (nI 10)) hx hb dX2_kindAt_46 (by decide +kernel) ?_
          refine lv_icmp_eq (tgt := 57) hx hb dX2_kindAt_48 (by decide) (fun c_13 => ?_) (fun c_13 => ?_)
          · skip
            refine lv_iconst (v := (nI 4)) hx hb dX2_kindAt_57 (by decide +kernel) ?_
            exact g_iret (Qr := (q_f_kindAt T ft t0 j tf tu tl t1 sz tk tr tb tx)) hC V ⟨(Nat.le_of_ble_eq_true rfl), (Nat.le_of_ble_eq_true rfl)⟩ ⟨4, rfl, rfl, (ck_mk h_tx (by omega) (ckS_4 (by first | exact Or.inl (by assumption) | exact Or.inr (by assumption)) (by first | exact Or.inl (by assumption) | exact Or.inr (by assumption)) (by first | exact Or.inl (by assumption) | exact Or.inr (by assumption))))⟩ dX2_kindAt_58
          · skip
            refine lv_iload_n hx hb dX2_kindAt_51 rfl (lv_at hl 0 rfl) ?_
            refine lv_bipush (v := (nI 32)) hx hb dX2_kindAt_52 (by decide +kernel) ?_
            refine lv_icmp_ne (tgt := 59) hx hb dX2_kindAt_54 (by decide) (fun c_14 => ?_) (fun c_14 => ?_)
            · skip
              refine lv_iload_n hx hb dX2_kindAt_59 rfl (lv_at hl 0 rfl) ?_
              refine lv_bipush (v := (nI 59)) hx hb dX2_kindAt_60 (by decide +kernel) ?_
              refine lv_icmp_ne (tgt := 69) hx hb dX2_kindAt_62 (by decide) (fun c_15 => ?_) (fun c_15 => ?_)
              · skip
                refine lv_bipush (v := (nI 6)) hx hb dX2_kindAt_69 (by decide +kernel) ?_
                exact g_iret (Qr := (q_f_kindAt T ft t0 j tf tu tl t1 sz tk tr tb tx)) hC V ⟨(Nat.le_of_ble_eq_true rfl), (Nat.le_of_ble_eq_true rfl)⟩ ⟨6, rfl, rfl, (ck_mk h_tx (by omega) (ckS_6 (by first | exact Or.inl (by assumption) | exact Or.inr (by assumption)) (by first | exact Or.inl (by assumption) | exact Or.inr (by assumption)) (by assumption) (by assumption) (by assumption)))⟩ dX2_kindAt_71
              · skip
                refine lv_iconst (v := (nI 3)) hx hb dX2_kindAt_65 (by decide +kernel) ?_
                refine lv_goto (tgt := 71) hx hb dX2_kindAt_66 (by decide) ?_
                exact g_iret (Qr := (q_f_kindAt T ft t0 j tf tu tl t1 sz tk tr tb tx)) hC V ⟨(Nat.le_of_ble_eq_true rfl), (Nat.le_of_ble_eq_true rfl)⟩ ⟨3, rfl, rfl, (ck_mk h_tx (by omega) (ckS_3 (by first | exact Or.inl (by assumption) | exact Or.inr (by assumption)) (by first | exact Or.inl (by assumption) | exact Or.inr (by assumption)) (by assumption) (by assumption) (by assumption)))⟩ dX2_kindAt_71
            · skip
              refine lv_iconst (v := (nI 4)) hx hb dX2_kindAt_57 (by decide +kernel) ?_
              exact g_iret (Qr := (q_f_kindAt T ft t0 j tf tu tl t1 sz tk tr tb tx)) hC V ⟨(Nat.le_of_ble_eq_true rfl), (Nat.le_of_ble_eq_true rfl)⟩ ⟨4, rfl, rfl, (ck_mk h_tx (by omega) (ckS_4 (by first | exact Or.inl (by assumption) | exact Or.inr (by assumption)) (by first | exact Or.inl (by assumption) | exact Or.inr (by assumption)) (by first | exact Or.inl (by assumption) | exact Or.inr (by assumption))))⟩ dX2_kindAt_58
        · skip
          refine lv_iload_n hx hb dX2_kindAt_37 rfl (lv_at hl 0 rfl) ?_
          refine lv_bipush (v := (nI 57)) hx hb dX2_kindAt_38 (by decide +kernel) ?_
          refine lv_icmp_gt (tgt := 45) hx hb dX2_kindAt_40 (by decide) (fun c_16 => ?_) (fun c_16 => ?_)
          · skip
            refine lv_iload_n hx hb dX2_kindAt_45 rfl (lv_at hl 0 rfl) ?_
            refine lv_bipush (v := (nI 10)) hx hb dX2_kindAt_46 (by decide +kernel) ?_
            refine lv_icmp_eq (tgt := 57) hx hb dX2_kindAt_48 (by decide) (fun c_17 => ?_) (fun c_17 => ?_)
            · skip
              refine lv_iconst (v := (nI 4)) hx hb dX2_kindAt_57 (by decide +kernel) ?_
              exact g_iret (Qr := (q_f_kindAt T ft t0 j tf tu tl t1 sz tk tr tb tx)) hC V ⟨(Nat.le_of_ble_eq_true rfl), (Nat.le_of_ble_eq_true rfl)⟩ ⟨4, rfl, rfl, (ck_mk h_tx (by omega) (ckS_4 (by first | exact Or.inl (by assumption) | exact Or.inr (by assumption)) (by first | exact Or.inl (by assumption) | exact Or.inr (by assumption)) (by first | exact Or.inl (by assumption) | exact Or.inr (by assumption))))⟩ dX2_kindAt_58
            · skip
              refine lv_iload_n hx hb dX2_kindAt_51 rfl (lv_at hl 0 rfl) ?_
              refine lv_bipush (v := (nI 32)) hx hb dX2_kindAt_52 (by decide +kernel) ?_
              refine lv_icmp_ne (tgt := 59) hx hb dX2_kindAt_54 (by decide) (fun c_18 => ?_) (fun c_18 => ?_)
              · skip
                refine lv_iload_n hx hb dX2_kindAt_59 rfl (lv_at hl 0 rfl) ?_
                refine lv_bipush (v := (nI 59)) hx hb dX2_kindAt_60 (by decide +kernel) ?_
                refine lv_icmp_ne (tgt := 69) hx hb dX2_kindAt_62 (by decide) (fun c_19 => ?_) (fun c_19 => ?_)
                · skip
                  refine lv_bipush (v := (nI 6)) hx hb dX2_kindAt_69 (by decide +kernel) ?_
                  exact g_iret (Qr := (q_f_kindAt T ft t0 j tf tu tl t1 sz tk tr tb tx)) hC V ⟨(Nat.le_of_ble_eq_true rfl), (Nat.le_of_ble_eq_true rfl)⟩ ⟨6, rfl, rfl, (ck_mk h_tx (by omega) (ckS_6 (by first | exact Or.inl (by assumption) | exact Or.inr (by assumption)) (by first | exact Or.inl (by assumption) | exact Or.inr (by assumption)) (by assumption) (by assumption) (by assumption)))⟩ dX2_kindAt_71
                · skip
                  refine lv_iconst (v := (nI 3)) hx hb dX2_kindAt_65 (by decide +kernel) ?_
                  refine lv_goto (tgt := 71) hx hb dX2_kindAt_66 (by decide) ?_
                  exact g_iret (Qr := (q_f_kindAt T ft t0 j tf tu tl t1 sz tk tr tb tx)) hC V ⟨(Nat.le_of_ble_eq_true rfl), (Nat.le_of_ble_eq_true rfl)⟩ ⟨3, rfl, rfl, (ck_mk h_tx (by omega) (ckS_3 (by first | exact Or.inl (by assumption) | exact Or.inr (by assumption)) (by first | exact Or.inl (by assumption) | exact Or.inr (by assumption)) (by assumption) (by assumption) (by assumption)))⟩ dX2_kindAt_71
              · skip
                refine lv_iconst (v := (nI 4)) hx hb dX2_kindAt_57 (by decide +kernel) ?_
                exact g_iret (Qr := (q_f_kindAt T ft t0 j tf tu tl t1 sz tk tr tb tx)) hC V ⟨(Nat.le_of_ble_eq_true rfl), (Nat.le_of_ble_eq_true rfl)⟩ ⟨4, rfl, rfl, (ck_mk h_tx (by omega) (ckS_4 (by first | exact Or.inl (by assumption) | exact Or.inr (by assumption)) (by first | exact Or.inl (by assumption) | exact Or.inr (by assumption)) (by first | exact Or.inl (by assumption) | exact Or.inr (by assumption))))⟩ dX2_kindAt_58
          · skip
            refine lv_iconst (v := (nI 2)) hx hb dX2_kindAt_43 (by decide +kernel) ?_
            exact g_iret (Qr := (q_f_kindAt T ft t0 j tf tu tl t1 sz tk tr tb tx)) hC V ⟨(Nat.le_of_ble_eq_true rfl), (Nat.le_of_ble_eq_true rfl)⟩ ⟨2, rfl, rfl, (ck_mk h_tx (by omega) (ckS_2 (by first | exact Or.inl (by assumption) | exact Or.inr (by assumption)) (by assumption) (by assumption)))⟩ dX2_kindAt_44
      · skip
        refine lv_iconst (v := (nI 1)) hx hb dX2_kindAt_29 (by decide +kernel) ?_
        exact g_iret (Qr := (q_f_kindAt T ft t0 j tf tu tl t1 sz tk tr tb tx)) hC V ⟨(Nat.le_of_ble_eq_true rfl), (Nat.le_of_ble_eq_true rfl)⟩ ⟨1, rfl, rfl, (ck_mk h_tx (by omega) (ckS_1 (by assumption) (by assumption)))⟩ dX2_kindAt_30
  · skip
    have c_1 := b_nlt (by omega) (by omega) c_1
    refine lv_iconst (v := (nI 5)) hx hb dX2_kindAt_8 (by decide +kernel) ?_
    exact g_iret (Qr := (q_f_kindAt T ft t0 j tf tu tl t1 sz tk tr tb tx)) hC V ⟨(Nat.le_of_ble_eq_true rfl), (Nat.le_of_ble_eq_true rfl)⟩ ⟨5, rfl, rfl, (ck_5 (by omega))⟩ dX2_kindAt_9

def q_f_fail0 (T : Nat → ClassId) (t0 : Nat) (w : Nat) (tf : Int32) (tu : Nat) (tl : Int32) (t1 : Nat) (sz : Nat) (tk : Int32) (tr : Nat) (tb : Int32) : Option Value → va_W → Prop := fun rr ww => (rr = none ∧ ww = [(t0, .inr (2, [.int tf, .int (nI w), .int (nI tr), .ref t1, .int (nI sz), .int tk, .int (nI tr), .int tb]))])
set_option maxHeartbeats 4000000 in
set_option maxRecDepth 100000 in
theorem f_fail0 (l : Launch) (D : va_G) (T : Nat → ClassId) (t0 : Nat) (w : Nat) (tf : Int32) (tu : Nat) (tl : Int32) (t1 : Nat) (sz : Nat) (tk : Int32) (tr : Nat) (tb : Int32) (h_u : tu = 0) : Ct l yX2_fail cX2_fail 2 none 0 0 0 D T [.ref t0, .int (nI w)] [(t0, .inr (2, [.int tf, .int (nI tu), .int tl, .ref t1, .int (nI sz), .int tk, .int (nI tr), .int tb]))] (q_f_fail0 T t0 w tf tu tl t1 sz tk tr tb) := by
  refine Ct.of (cc := cX2_fail) (maxL := 2) (ret := none) (by decide) (Nat.le_of_ble_eq_true rfl) ?_
  intro p e s m args below meth c A ls hC hnm V hl
  obtain ⟨hx, hb, hr, hml, hown, hts, hlocks⟩ := id hC
  generalize hH : s.heap = H at V ⊢
  clear hH
  have hl : lv_has ls 2 [(0, .ref t0), (1, .int (nI w))] := hl
  generalize hlo : ([] : List Loc) = locs at V ⊢
  clear hlo
  refine lv_aload_n hx hb dX2_fail_0 rfl (lv_at hl 0 rfl) ?_
  refine g_get hC V (ci := 2) uwX2 0 rfl rfl 1 (by decide) w_130 rfl rfl dX2_fail_1 ?_
  refine lv_if_ne (tgt := 20) hx hb dX2_fail_4 (by decide) (fun c_1 => ?_) (fun c_1 => ?_)
  · skip
    rw [show (0 : Int32) = nI 0 from rfl] at c_1
    have c_1 := b_ne (by omega) (by omega) c_1
    exact (by omega : False).elim
  · skip
    rw [show (0 : Int32) = nI 0 from rfl] at c_1
    have c_1 := b_eq (by omega) (by omega) c_1
    refine lv_aload_n hx hb dX2_fail_7 rfl (lv_at hl 0 rfl) ?_
    refine lv_iload_n hx hb dX2_fail_8 rfl (lv_at hl 1 rfl) ?_
    refine g_put hC V (ci := 2) uwX2 tyX2 tyX2_ok nmX2 0 rfl rfl 1 (by decide) w_130 rfl rfl rfl rfl (Nat.le_of_ble_eq_true rfl) (ws' := [(t0, .inr (2, [.int tf, .int (nI w), .int tl, .ref t1, .int (nI sz), .int tk, .int (nI tr), .int tb]))]) rfl dX2_fail_9 (fun H locs V => ?_)
    refine lv_aload_n hx hb dX2_fail_12 rfl (lv_at hl 0 rfl) ?_
    refine lv_aload_n hx hb dX2_fail_13 rfl (lv_at hl 0 rfl) ?_
    refine g_get hC V (ci := 2) uwX2 0 rfl rfl 6 (by decide) w_137 rfl rfl dX2_fail_14 ?_
    refine g_put hC V (ci := 2) uwX2 tyX2 tyX2_ok nmX2 0 rfl rfl 2 (by decide) w_132 rfl rfl rfl rfl (Nat.le_of_ble_eq_true rfl) (ws' := [(t0, .inr (2, [.int tf, .int (nI w), .int (nI tr), .ref t1, .int (nI sz), .int tk, .int (nI tr), .int tb]))]) rfl dX2_fail_17 (fun H locs V => ?_)
    exact g_vret (Qr := (q_f_fail0 T t0 w tf tu tl t1 sz tk tr tb)) hC V ⟨(Nat.le_of_ble_eq_true rfl), (Nat.le_of_ble_eq_true rfl)⟩ ⟨rfl, rfl⟩ dX2_fail_20

def q_f_nextToken (T : Nat → ClassId) (ft : Nat → Int32) (nu : Int32) (wa : Int32) (t0 : Nat) (tf : Int32) (tu : Nat) (tl : Int32) (t1 : Nat) (sz : Nat) (tk : Int32) (tr : Int32) (be : Nat) (tx : Nat → Int32) : Option Value → va_W → Prop := fun rr ww => (∃ (p2 : PS), rr = none ∧ ww = [(t0, .inr (2, [.int tf, .int (nI (cF p2)), .int (cP p2), .ref t1, .int (nI sz), .int (nI (cK p2.2.2.1)), .int (nI p2.1), .int (nI p2.2.1)])), (t1, .inl (T 3, 900, .inl tx))] ∧ p2 = nxS ft sz (0, be, 0, nu, 0, wa))
set_option maxHeartbeats 4000000 in
set_option maxRecDepth 100000 in
theorem f_nextToken (l : Launch) (D : va_G) (T : Nat → ClassId) (ft : Nat → Int32) (nu : Int32) (wa : Int32) (t0 : Nat) (tf : Int32) (tu : Nat) (tl : Int32) (t1 : Nat) (sz : Nat) (tk : Int32) (tr : Int32) (be : Nat) (tx : Nat → Int32) (h_sz : sz ≤ 900) (h_tx : TXT sz tx ft) (h_b : be ≤ sz) (h_u : tu = 0) (h_l : tl = -1) : Ct l yX2_nextToken cX2_nextToken 1 none 1 0 0 D T [.ref t0] [(t0, .inr (2, [.int tf, .int (nI tu), .int tl, .ref t1, .int (nI sz), .int tk, .int tr, .int (nI be)])), (t1, .inl (T 3, 900, .inl tx))] (q_f_nextToken T ft nu wa t0 tf tu tl t1 sz tk tr be tx) := by
  refine Ct.of (cc := cX2_nextToken) (maxL := 1) (ret := none) (by decide) (Nat.le_of_ble_eq_true rfl) ?_
  intro p e s m args below meth c A ls hC hnm V hl
  obtain ⟨hx, hb, hr, hml, hown, hts, hlocks⟩ := id hC
  generalize hH : s.heap = H at V ⊢
  clear hH
  have hl : lv_has ls 1 [(0, .ref t0)] := hl
  generalize hlo : ([] : List Loc) = locs at V ⊢
  clear hlo
  refine lv_aload_n hx hb dX2_nextToken_0 rfl (lv_at hl 0 rfl) ?_
  refine lv_aload_n hx hb dX2_nextToken_1 rfl (lv_at hl 0 rfl) ?_
  refine g_get hC V (ci := 2) uwX2 0 rfl rfl 7 (by decide) w_138 rfl rfl dX2_nextToken_2 ?_
  refine g_put hC V (ci := 2) uwX2 tyX2 tyX2_ok nmX2 0 rfl rfl 6 (by decide) w_137 rfl rfl rfl rfl (Nat.le_of_ble_eq_true rfl) (ws' := [(t0, .inr (2, [.int tf, .int (nI tu), .int tl, .ref t1, .int (nI sz), .int tk, .int (nI be), .int (nI be)])), (t1, .inl (T 3, 900, .inl tx))]) rfl dX2_nextToken_5 (fun H locs V => ?_)
  have J_44 : ∀ (aq : Nat), (be ≤ aq ∧ aq ≤ sz) → aq = rn blkB ft sz be → (aq < sz → ¬ blkB (ft aq) = true) → ∀ (H : Heap) (locs : List Loc) (ls : Array Slot), gW D T A s [(t0, .inr (2, [.int tf, .int (nI tu), .int tl, .ref t1, .int (nI sz), .int tk, .int (nI aq), .int (nI be)])), (t1, .inl (T 3, 900, .inl tx))] H locs → lv_has ls 1 [(0, .ref t0)] → W p l e (rmD 1 0 0) s m args below meth c H locs 0 0 (MQ below (gQ D A (q_f_nextToken T ft nu wa t0 tf tu tl t1 sz tk tr be tx)) args s 0 0 A) (F0 m 44 ls []) := by
    intro aq haq haq2 hnb2 H locs ls V hl
    refine lv_aload_n hx hb dX2_nextToken_44 rfl (lv_at hl 0 rfl) ?_
    refine lv_aload_n hx hb dX2_nextToken_45 rfl (lv_at hl 0 rfl) ?_
    refine lv_aload_n hx hb dX2_nextToken_46 rfl (lv_at hl 0 rfl) ?_
    refine g_get hC V (ci := 2) uwX2 0 rfl rfl 6 (by decide) w_137 rfl rfl dX2_nextToken_47 ?_
    refine g_callV (wr := []) (nA := 1) hC V hl.1 (f_kindAt l D T ft t0 aq tf (nI tu) tl t1 sz tk (nI aq) (nI be) tx (by first | assumption | omega) (by first | assumption | omega) (by first | assumption | omega)) w_313 w_315 w_s1 w_4 w_316 (by decide +kernel) rfl ⟨(Nat.le_of_ble_eq_true rfl), (Nat.le_of_ble_eq_true rfl)⟩ 0 (ci := 2) rfl rfl [0, 1] [] rfl rfl rfl rfl (by decide) (Nat.le_of_ble_eq_true rfl) dX2_nextToken_50 ⟨(Nat.le_of_ble_eq_true rfl), (Nat.le_of_ble_eq_true rfl)⟩ rfl (fun r w1 H locs hQ V => ?_)
    obtain ⟨zk, rfl, rfl, f_1⟩ := hQ
    have V : gW D T A s [(t0, .inr (2, [.int tf, .int (nI tu), .int tl, .ref t1, .int (nI sz), .int tk, .int (nI aq), .int (nI be)])), (t1, .inl (T 3, 900, .inl tx))] H locs := V
    show W p l e _ s m args below meth c H locs _ _ _ (F0 m 53 ls [.int (nI zk), .ref t0])
    have ezk := f_1
    have hzk := ckA_le h_tx aq
    refine g_put hC V (ci := 2) uwX2 tyX2 tyX2_ok nmX2 0 rfl rfl 5 (by decide) w_136 rfl rfl rfl rfl (Nat.le_of_ble_eq_true rfl) (ws' := [(t0, .inr (2, [.int tf, .int (nI tu), .int tl, .ref t1, .int (nI sz), .int (nI zk), .int (nI aq), .int (nI be)])), (t1, .inl (T 3, 900, .inl tx))]) rfl dX2_nextToken_53 (fun H locs V => ?_)
    refine lv_aload_n hx hb dX2_nextToken_56 rfl (lv_at hl 0 rfl) ?_
    refine lv_aload_n hx hb dX2_nextToken_57 rfl (lv_at hl 0 rfl) ?_
    refine g_get hC V (ci := 2) uwX2 0 rfl rfl 6 (by decide) w_137 rfl rfl dX2_nextToken_58 ?_
    refine lv_iconst (v := (nI 1)) hx hb dX2_nextToken_61 (by decide +kernel) ?_
    refine lv_iadd hx hb dX2_nextToken_62 ?_
    refine g_vi (y := (nI (aq + 1))) (nI_add _ _) ?_
    refine lv_aload_n hx hb dX2_nextToken_63 rfl (lv_at hl 0 rfl) ?_
    refine g_get hC V (ci := 2) uwX2 0 rfl rfl 4 (by decide) w_135 rfl rfl dX2_nextToken_64 ?_
    refine va_mmin hx hb (hml.trans hl.1.symm) hown (hts _ w_299) (hts _ w_300) (hts _ w_10) (hts _ w_301) (Nat.le_of_ble_eq_true rfl) (Nat.le_of_ble_eq_true rfl) (Nat.le_of_ble_eq_true rfl) (Nat.le_of_ble_eq_true rfl) dX2_nextToken_67 ?_
    refine g_vi (y := (nI (min (aq + 1) sz))) (min_nI (by omega) (by omega)) ?_
    refine g_put hC V (ci := 2) uwX2 tyX2 tyX2_ok nmX2 0 rfl rfl 7 (by decide) w_138 rfl rfl rfl rfl (Nat.le_of_ble_eq_true rfl) (ws' := [(t0, .inr (2, [.int tf, .int (nI tu), .int tl, .ref t1, .int (nI sz), .int (nI zk), .int (nI aq), .int (nI (min (aq + 1) sz))])), (t1, .inl (T 3, 900, .inl tx))]) rfl dX2_nextToken_70 (fun H locs V => ?_)
    have L_2 : ∀ (fu : Nat) (bq : Nat), (aq ≤ bq ∧ bq ≤ sz) → (zk = 1 → rn smB ft sz bq = rn smB ft sz aq) → (zk = 2 → rn dgB ft sz bq = rn dgB ft sz aq) → (¬ zk = 1 → ¬ zk = 2 → bq = min (aq + 1) sz) → sz - bq < fu → ∀ (H : Heap) (locs : List Loc) (ls : Array Slot), gW D T A s [(t0, .inr (2, [.int tf, .int (nI tu), .int tl, .ref t1, .int (nI sz), .int (nI zk), .int (nI aq), .int (nI bq)])), (t1, .inl (T 3, 900, .inl tx))] H locs → lv_has ls 1 [(0, .ref t0)] → W p l e (rmD 1 0 0) s m args below meth c H locs 0 0 (MQ below (gQ D A (q_f_nextToken T ft nu wa t0 tf tu tl t1 sz tk tr be tx)) args s 0 0 A) (F0 m 73 ls []) := by
      intro fu_73
      induction fu_73 with
      | zero => intro bq hbq hb1 hb2 hb3 hmu; exact absurd hmu (Nat.not_lt_zero _)
      | succ fu_73 ih_73 =>
        intro bq hbq hb1 hb2 hb3 hmu_73 H locs ls V hl
        refine lv_aload_n hx hb dX2_nextToken_73 rfl (lv_at hl 0 rfl) ?_
        refine g_get hC V (ci := 2) uwX2 0 rfl rfl 7 (by decide) w_138 rfl rfl dX2_nextToken_74 ?_
        refine lv_aload_n hx hb dX2_nextToken_77 rfl (lv_at hl 0 rfl) ?_
        refine g_get hC V (ci := 2) uwX2 0 rfl rfl 4 (by decide) w_135 rfl rfl dX2_nextToken_78 ?_
        refine lv_icmp_ge (tgt := 128) hx hb dX2_nextToken_81 (by decide) (fun c_3 => ?_) (fun c_3 => ?_)
        · skip
          have c_3 := b_le (by omega) (by omega) c_3
          have hB : bq = tkB ft sz aq := nt_B h_tx (by omega) (by omega) ezk hb1 hb2 hb3 (Or.inl (by omega))
          refine lv_aload_n hx hb dX2_nextToken_128 rfl (lv_at hl 0 rfl) ?_
          refine g_get hC V (ci := 2) uwX2 0 rfl rfl 5 (by decide) w_136 rfl rfl dX2_nextToken_129 ?_
          refine lv_bipush (v := (nI 6)) hx hb dX2_nextToken_132 (by decide +kernel) ?_
          refine lv_icmp_eq (tgt := 158) hx hb dX2_nextToken_134 (by decide) (fun c_4 => ?_) (fun c_4 => ?_)
          · skip
            have c_4 := b_eq (by omega) (by omega) c_4
            refine lv_aload_n hx hb dX2_nextToken_158 rfl (lv_at hl 0 rfl) ?_
            refine lv_bipush (v := (nI 6)) hx hb dX2_nextToken_159 (by decide +kernel) ?_
            refine g_put hC V (ci := 2) uwX2 tyX2 tyX2_ok nmX2 0 rfl rfl 5 (by decide) w_136 rfl rfl rfl rfl (Nat.le_of_ble_eq_true rfl) (ws' := [(t0, .inr (2, [.int tf, .int (nI tu), .int tl, .ref t1, .int (nI sz), .int (nI 6), .int (nI aq), .int (nI bq)])), (t1, .inl (T 3, 900, .inl tx))]) rfl dX2_nextToken_161 (fun H locs V => ?_)
            refine lv_aload_n hx hb dX2_nextToken_164 rfl (lv_at hl 0 rfl) ?_
            refine lv_iconst (v := (nI 1)) hx hb dX2_nextToken_165 (by decide +kernel) ?_
            refine g_callVU (nA := 1) hC V hl.1 (f_fail0 l D T t0 1 tf tu tl t1 sz (nI 6) aq (nI bq) h_u) w_317 w_319 w_s2 w_4 w_320 (by decide +kernel) rfl ⟨(Nat.le_of_ble_eq_true rfl), (Nat.le_of_ble_eq_true rfl)⟩ 0 (ci := 2) rfl rfl [0] rfl rfl (Nat.le_of_ble_eq_true rfl) dX2_nextToken_166 ⟨(Nat.le_of_ble_eq_true rfl), (Nat.le_of_ble_eq_true rfl)⟩ rfl (fun r w1 H locs hQ V => ?_)
            obtain ⟨rfl, rfl⟩ := hQ
            have V : gW D T A s [(t0, .inr (2, [.int tf, .int (nI 1), .int (nI aq), .ref t1, .int (nI sz), .int (nI 6), .int (nI aq), .int (nI bq)])), (t1, .inl (T 3, 900, .inl tx))] H locs := V _ [0] rfl rfl rfl (by decide +kernel) rfl
            show W p l e _ s m args below meth c H locs _ _ _ (F0 m 169 ls [])
            exact g_vret (Qr := (q_f_nextToken T ft nu wa t0 tf tu tl t1 sz tk tr be tx)) hC V ⟨(Nat.le_of_ble_eq_true rfl), (Nat.le_of_ble_eq_true rfl)⟩ ⟨(nxS ft sz (0, be, 0, nu, 0, wa)), rfl, (by obtain ⟨q1, q2, q3, q4, q5⟩ := nt_f (nu := nu) (wa := wa) h_tx haq2 hB ezk (by omega); rw [q1, q2, q3, q4, q5]), rfl⟩ dX2_nextToken_169
          · skip
            have c_4 := b_ne (by omega) (by omega) c_4
            refine lv_aload_n hx hb dX2_nextToken_137 rfl (lv_at hl 0 rfl) ?_
            refine g_get hC V (ci := 2) uwX2 0 rfl rfl 5 (by decide) w_136 rfl rfl dX2_nextToken_138 ?_
            refine lv_iconst (v := (nI 2)) hx hb dX2_nextToken_141 (by decide +kernel) ?_
            refine lv_icmp_ne (tgt := 169) hx hb dX2_nextToken_142 (by decide) (fun c_5 => ?_) (fun c_5 => ?_)
            · skip
              have c_5 := b_ne (by omega) (by omega) c_5
              exact g_vret (Qr := (q_f_nextToken T ft nu wa t0 tf tu tl t1 sz tk tr be tx)) hC V ⟨(Nat.le_of_ble_eq_true rfl), (Nat.le_of_ble_eq_true rfl)⟩ ⟨(nxS ft sz (0, be, 0, nu, 0, wa)), rfl, (by obtain ⟨q1, q2, q3, q4, q5⟩ := nt_v (nu := nu) (wa := wa) h_tx (by omega) haq2 hB ezk hnb2 (by omega) (by omega); rw [q1, q2, q3, q4, q5, h_u, h_l]), rfl⟩ dX2_nextToken_169
            · skip
              have c_5 := b_eq (by omega) (by omega) c_5
              refine lv_aload_n hx hb dX2_nextToken_145 rfl (lv_at hl 0 rfl) ?_
              refine g_get hC V (ci := 2) uwX2 0 rfl rfl 7 (by decide) w_138 rfl rfl dX2_nextToken_146 ?_
              refine lv_aload_n hx hb dX2_nextToken_149 rfl (lv_at hl 0 rfl) ?_
              refine g_get hC V (ci := 2) uwX2 0 rfl rfl 6 (by decide) w_137 rfl rfl dX2_nextToken_150 ?_
              refine lv_isub hx hb dX2_nextToken_153 ?_
              refine g_vi (y := (nI (bq - aq))) (nI_sub (by omega)) ?_
              refine lv_iconst (v := (nI 3)) hx hb dX2_nextToken_154 (by decide +kernel) ?_
              refine lv_icmp_le (tgt := 169) hx hb dX2_nextToken_155 (by decide) (fun c_6 => ?_) (fun c_6 => ?_)
              · skip
                have c_6 := b_le (by omega) (by omega) c_6
                exact g_vret (Qr := (q_f_nextToken T ft nu wa t0 tf tu tl t1 sz tk tr be tx)) hC V ⟨(Nat.le_of_ble_eq_true rfl), (Nat.le_of_ble_eq_true rfl)⟩ ⟨(nxS ft sz (0, be, 0, nu, 0, wa)), rfl, (by obtain ⟨q1, q2, q3, q4, q5⟩ := nt_v (nu := nu) (wa := wa) h_tx (by omega) haq2 hB ezk hnb2 (by omega) (by omega); rw [q1, q2, q3, q4, q5, h_u, h_l]), rfl⟩ dX2_nextToken_169
              · skip
                have c_6 := b_nle (by omega) (by omega) c_6
                refine lv_aload_n hx hb dX2_nextToken_158 rfl (lv_at hl 0 rfl) ?_
                refine lv_bipush (v := (nI 6)) hx hb dX2_nextToken_159 (by decide +kernel) ?_
                refine g_put hC V (ci := 2) uwX2 tyX2 tyX2_ok nmX2 0 rfl rfl 5 (by decide) w_136 rfl rfl rfl rfl (Nat.le_of_ble_eq_true rfl) (ws' := [(t0, .inr (2, [.int tf, .int (nI tu), .int tl, .ref t1, .int (nI sz), .int (nI 6), .int (nI aq), .int (nI bq)])), (t1, .inl (T 3, 900, .inl tx))]) rfl dX2_nextToken_161 (fun H locs V => ?_)
                refine lv_aload_n hx hb dX2_nextToken_164 rfl (lv_at hl 0 rfl) ?_
                refine lv_iconst (v := (nI 1)) hx hb dX2_nextToken_165 (by decide +kernel) ?_
                refine g_callVU (nA := 1) hC V hl.1 (f_fail0 l D T t0 1 tf tu tl t1 sz (nI 6) aq (nI bq) h_u) w_317 w_319 w_s2 w_4 w_320 (by decide +kernel) rfl ⟨(Nat.le_of_ble_eq_true rfl), (Nat.le_of_ble_eq_true rfl)⟩ 0 (ci := 2) rfl rfl [0] rfl rfl (Nat.le_of_ble_eq_true rfl) dX2_nextToken_166 ⟨(Nat.le_of_ble_eq_true rfl), (Nat.le_of_ble_eq_true rfl)⟩ rfl (fun r w1 H locs hQ V => ?_)
                obtain ⟨rfl, rfl⟩ := hQ
                have V : gW D T A s [(t0, .inr (2, [.int tf, .int (nI 1), .int (nI aq), .ref t1, .int (nI sz), .int (nI 6), .int (nI aq), .int (nI bq)])), (t1, .inl (T 3, 900, .inl tx))] H locs := V _ [0] rfl rfl rfl (by decide +kernel) rfl
                show W p l e _ s m args below meth c H locs _ _ _ (F0 m 169 ls [])
                exact g_vret (Qr := (q_f_nextToken T ft nu wa t0 tf tu tl t1 sz tk tr be tx)) hC V ⟨(Nat.le_of_ble_eq_true rfl), (Nat.le_of_ble_eq_true rfl)⟩ ⟨(nxS ft sz (0, be, 0, nu, 0, wa)), rfl, (by obtain ⟨q1, q2, q3, q4, q5⟩ := nt_f (nu := nu) (wa := wa) h_tx haq2 hB ezk (by omega); rw [q1, q2, q3, q4, q5]), rfl⟩ dX2_nextToken_169
        · skip
          have c_3 := b_nle (by omega) (by omega) c_3
          refine lv_aload_n hx hb dX2_nextToken_84 rfl (lv_at hl 0 rfl) ?_
          refine g_get hC V (ci := 2) uwX2 0 rfl rfl 5 (by decide) w_136 rfl rfl dX2_nextToken_85 ?_
          refine lv_iconst (v := (nI 1)) hx hb dX2_nextToken_88 (by decide +kernel) ?_
          refine lv_icmp_eq (tgt := 100) hx hb dX2_nextToken_89 (by decide) (fun c_7 => ?_) (fun c_7 => ?_)
          · skip
            have c_7 := b_eq (by omega) (by omega) c_7
            refine lv_aload_n hx hb dX2_nextToken_100 rfl (lv_at hl 0 rfl) ?_
            refine lv_aload_n hx hb dX2_nextToken_101 rfl (lv_at hl 0 rfl) ?_
            refine g_get hC V (ci := 2) uwX2 0 rfl rfl 7 (by decide) w_138 rfl rfl dX2_nextToken_102 ?_
            refine g_callV (wr := []) (nA := 1) hC V hl.1 (f_kindAt l D T ft t0 bq tf (nI tu) tl t1 sz (nI zk) (nI aq) (nI bq) tx (by first | assumption | omega) (by first | assumption | omega) (by first | assumption | omega)) w_313 w_315 w_s1 w_4 w_316 (by decide +kernel) rfl ⟨(Nat.le_of_ble_eq_true rfl), (Nat.le_of_ble_eq_true rfl)⟩ 0 (ci := 2) rfl rfl [0, 1] [] rfl rfl rfl rfl (by decide) (Nat.le_of_ble_eq_true rfl) dX2_nextToken_105 ⟨(Nat.le_of_ble_eq_true rfl), (Nat.le_of_ble_eq_true rfl)⟩ rfl (fun r w1 H locs hQ V => ?_)
            obtain ⟨zb, rfl, rfl, f_8⟩ := hQ
            have V : gW D T A s [(t0, .inr (2, [.int tf, .int (nI tu), .int tl, .ref t1, .int (nI sz), .int (nI zk), .int (nI aq), .int (nI bq)])), (t1, .inl (T 3, 900, .inl tx))] H locs := V
            show W p l e _ s m args below meth c H locs _ _ _ (F0 m 108 ls [.int (nI zb)])
            have hzb6 := ckA_le h_tx bq
            have ezb := f_8
            refine lv_aload_n hx hb dX2_nextToken_108 rfl (lv_at hl 0 rfl) ?_
            refine g_get hC V (ci := 2) uwX2 0 rfl rfl 5 (by decide) w_136 rfl rfl dX2_nextToken_109 ?_
            refine lv_icmp_ne (tgt := 128) hx hb dX2_nextToken_112 (by decide) (fun c_9 => ?_) (fun c_9 => ?_)
            · skip
              have c_9 := b_ne (by omega) (by omega) c_9
              have hB : bq = tkB ft sz aq := nt_B h_tx (by omega) (by omega) ezk hb1 hb2 hb3 (Or.inr (Or.inr ⟨by omega, by omega⟩))
              refine lv_aload_n hx hb dX2_nextToken_128 rfl (lv_at hl 0 rfl) ?_
              refine g_get hC V (ci := 2) uwX2 0 rfl rfl 5 (by decide) w_136 rfl rfl dX2_nextToken_129 ?_
              refine lv_bipush (v := (nI 6)) hx hb dX2_nextToken_132 (by decide +kernel) ?_
              refine lv_icmp_eq (tgt := 158) hx hb dX2_nextToken_134 (by decide) (fun c_10 => ?_) (fun c_10 => ?_)
              · skip
                have c_10 := b_eq (by omega) (by omega) c_10
                refine lv_aload_n hx hb dX2_nextToken_158 rfl (lv_at hl 0 rfl) ?_
                refine lv_bipush (v := (nI 6)) hx hb dX2_nextToken_159 (by decide +kernel) ?_
                refine g_put hC V (ci := 2) uwX2 tyX2 tyX2_ok nmX2 0 rfl rfl 5 (by decide) w_136 rfl rfl rfl rfl (Nat.le_of_ble_eq_true rfl) (ws' := [(t0, .inr (2, [.int tf, .int (nI tu), .int tl, .ref t1, .int (nI sz), .int (nI 6), .int (nI aq), .int (nI bq)])), (t1, .inl (T 3, 900, .inl tx))]) rfl dX2_nextToken_161 (fun H locs V => ?_)
                refine lv_aload_n hx hb dX2_nextToken_164 rfl (lv_at hl 0 rfl) ?_
                refine lv_iconst (v := (nI 1)) hx hb dX2_nextToken_165 (by decide +kernel) ?_
                refine g_callVU (nA := 1) hC V hl.1 (f_fail0 l D T t0 1 tf tu tl t1 sz (nI 6) aq (nI bq) h_u) w_317 w_319 w_s2 w_4 w_320 (by decide +kernel) rfl ⟨(Nat.le_of_ble_eq_true rfl), (Nat.le_of_ble_eq_true rfl)⟩ 0 (ci := 2) rfl rfl [0] rfl rfl (Nat.le_of_ble_eq_true rfl) dX2_nextToken_166 ⟨(Nat.le_of_ble_eq_true rfl), (Nat.le_of_ble_eq_true rfl)⟩ rfl (fun r w1 H locs hQ V => ?_)
                obtain ⟨rfl, rfl⟩ := hQ
                have V : gW D T A s [(t0, .inr (2, [.int tf, .int (nI 1), .int (nI aq), .ref t1, .int (nI sz), .int (nI 6), .int (nI aq), .int (nI bq)])), (t1, .inl (T 3, 900, .inl tx))] H locs := V _ [0] rfl rfl rfl (by decide +kernel) rfl
                show W p l e _ s m args below meth c H locs _ _ _ (F0 m 169 ls [])
                exact g_vret (Qr := (q_f_nextToken T ft nu wa t0 tf tu tl t1 sz tk tr be tx)) hC V ⟨(Nat.le_of_ble_eq_true rfl), (Nat.le_of_ble_eq_true rfl)⟩ ⟨(nxS ft sz (0, be, 0, nu, 0, wa)), rfl, (by obtain ⟨q1, q2, q3, q4, q5⟩ := nt_f (nu := nu) (wa := wa) h_tx haq2 hB ezk (by omega); rw [q1, q2, q3, q4, q5]), rfl⟩ dX2_nextToken_169
              · skip
                have c_10 := b_ne (by omega) (by omega) c_10
                refine lv_aload_n hx hb dX2_nextToken_137 rfl (lv_at hl 0 rfl) ?_
                refine g_get hC V (ci := 2) uwX2 0 rfl rfl 5 (by decide) w_136 rfl rfl dX2_nextToken_138 ?_
                refine lv_iconst (v := (nI 2)) hx hb dX2_nextToken_141 (by decide +kernel) ?_
                refine lv_icmp_ne (tgt := 169) hx hb dX2_nextToken_142 (by decide) (fun c_11 => ?_) (fun c_11 => ?_)
                · skip
                  have c_11 := b_ne (by omega) (by omega) c_11
                  exact g_vret (Qr := (q_f_nextToken T ft nu wa t0 tf tu tl t1 sz tk tr be tx)) hC V ⟨(Nat.le_of_ble_eq_true rfl), (Nat.le_of_ble_eq_true rfl)⟩ ⟨(nxS ft sz (0, be, 0, nu, 0, wa)), rfl, (by obtain ⟨q1, q2, q3, q4, q5⟩ := nt_v (nu := nu) (wa := wa) h_tx (by omega) haq2 hB ezk hnb2 (by omega) (by omega); rw [q1, q2, q3, q4, q5, h_u, h_l]), rfl⟩ dX2_nextToken_169
                · skip
                  have c_11 := b_eq (by omega) (by omega) c_11
                  refine lv_aload_n hx hb dX2_nextToken_145 rfl (lv_at hl 0 rfl) ?_
                  refine g_get hC V (ci := 2) uwX2 0 rfl rfl 7 (by decide) w_138 rfl rfl dX2_nextToken_146 ?_
                  refine lv_aload_n hx hb dX2_nextToken_149 rfl (lv_at hl 0 rfl) ?_
                  refine g_get hC V (ci := 2) uwX2 0 rfl rfl 6 (by decide) w_137 rfl rfl dX2_nextToken_150 ?_
                  refine lv_isub hx hb dX2_nextToken_153 ?_
                  refine g_vi (y := (nI (bq - aq))) (nI_sub (by omega)) ?_
                  refine lv_iconst (v := (nI 3)) hx hb dX2_nextToken_154 (by decide +kernel) ?_
                  refine lv_icmp_le (tgt := 169) hx hb dX2_nextToken_155 (by decide) (fun c_12 => ?_) (fun c_12 => ?_)
                  · skip
                    have c_12 := b_le (by omega) (by omega) c_12
                    exact g_vret (Qr := (q_f_nextToken T ft nu wa t0 tf tu tl t1 sz tk tr be tx)) hC V ⟨(Nat.le_of_ble_eq_true rfl), (Nat.le_of_ble_eq_true rfl)⟩ ⟨(nxS ft sz (0, be, 0, nu, 0, wa)), rfl, (by obtain ⟨q1, q2, q3, q4, q5⟩ := nt_v (nu := nu) (wa := wa) h_tx (by omega) haq2 hB ezk hnb2 (by omega) (by omega); rw [q1, q2, q3, q4, q5, h_u, h_l]), rfl⟩ dX2_nextToken_169
                  · skip
                    have c_12 := b_nle (by omega) (by omega) c_12
                    refine lv_aload_n hx hb dX2_nextToken_158 rfl (lv_at hl 0 rfl) ?_
                    refine lv_bipush (v := (nI 6)) hx hb dX2_nextToken_159 (by decide +kernel) ?_
                    refine g_put hC V (ci := 2) uwX2 tyX2 tyX2_ok nmX2 0 rfl rfl 5 (by decide) w_136 rfl rfl rfl rfl (Nat.le_of_ble_eq_true rfl) (ws' := [(t0, .inr (2, [.int tf, .int (nI tu), .int tl, .ref t1, .int (nI sz), .int (nI 6), .int (nI aq), .int (nI bq)])), (t1, .inl (T 3, 900, .inl tx))]) rfl dX2_nextToken_161 (fun H locs V => ?_)
                    refine lv_aload_n hx hb dX2_nextToken_164 rfl (lv_at hl 0 rfl) ?_
                    refine lv_iconst (v := (nI 1)) hx hb dX2_nextToken_165 (by decide +kernel) ?_
                    refine g_callVU (nA := 1) hC V hl.1 (f_fail0 l D T t0 1 tf tu tl t1 sz (nI 6) aq (nI bq) h_u) w_317 w_319 w_s2 w_4 w_320 (by decide +kernel) rfl ⟨(Nat.le_of_ble_eq_true rfl), (Nat.le_of_ble_eq_true rfl)⟩ 0 (ci := 2) rfl rfl [0] rfl rfl (Nat.le_of_ble_eq_true rfl) dX2_nextToken_166 ⟨(Nat.le_of_ble_eq_true rfl), (Nat.le_of_ble_eq_true rfl)⟩ rfl (fun r w1 H locs hQ V => ?_)
                    obtain ⟨rfl, rfl⟩ := hQ
                    have V : gW D T A s [(t0, .inr (2, [.int tf, .int (nI 1), .int (nI aq), .ref t1, .int (nI sz), .int (nI 6), .int (nI aq), .int (nI bq)])), (t1, .inl (T 3, 900, .inl tx))] H locs := V _ [0] rfl rfl rfl (by decide +kernel) rfl
                    show W p l e _ s m args below meth c H locs _ _ _ (F0 m 169 ls [])
                    exact g_vret (Qr := (q_f_nextToken T ft nu wa t0 tf tu tl t1 sz tk tr be tx)) hC V ⟨(Nat.le_of_ble_eq_true rfl), (Nat.le_of_ble_eq_true rfl)⟩ ⟨(nxS ft sz (0, be, 0, nu, 0, wa)), rfl, (by obtain ⟨q1, q2, q3, q4, q5⟩ := nt_f (nu := nu) (wa := wa) h_tx haq2 hB ezk (by omega); rw [q1, q2, q3, q4, q5]), rfl⟩ dX2_nextToken_169
            · skip
              have c_9 := b_eq (by omega) (by omega) c_9
              refine lv_aload_n hx hb dX2_nextToken_115 rfl (lv_at hl 0 rfl) ?_
              refine lv_dup hx hb dX2_nextToken_116 rfl ?_
              refine g_get hC V (ci := 2) uwX2 0 rfl rfl 7 (by decide) w_138 rfl rfl dX2_nextToken_117 ?_
              refine lv_iconst (v := (nI 1)) hx hb dX2_nextToken_120 (by decide +kernel) ?_
              refine lv_iadd hx hb dX2_nextToken_121 ?_
              refine g_vi (y := (nI (bq + 1))) (nI_add _ _) ?_
              refine g_put hC V (ci := 2) uwX2 tyX2 tyX2_ok nmX2 0 rfl rfl 7 (by decide) w_138 rfl rfl rfl rfl (Nat.le_of_ble_eq_true rfl) (ws' := [(t0, .inr (2, [.int tf, .int (nI tu), .int tl, .ref t1, .int (nI sz), .int (nI zk), .int (nI aq), .int (nI (bq + 1))])), (t1, .inl (T 3, 900, .inl tx))]) rfl dX2_nextToken_122 (fun H locs V => ?_)
              refine lv_goto (tgt := 73) hx hb dX2_nextToken_125 (by decide) ?_
              exact ih_73 (bq + 1) (by omega) (fun h => (rn_go (by omega) ((ckA_sm h_tx (by omega) ezb).mp (by omega))).symm.trans (hb1 h)) (fun h => (rn_go (by omega) ((ckA_dg h_tx (by omega) ezb).mp (by omega))).symm.trans (hb2 h)) (fun h1 h2 => by omega) (by omega) _ _ _ V (lv_sub hl [0] rfl)
          · skip
            have c_7 := b_ne (by omega) (by omega) c_7
            refine lv_aload_n hx hb dX2_nextToken_92 rfl (lv_at hl 0 rfl) ?_
            refine g_get hC V (ci := 2) uwX2 0 rfl rfl 5 (by decide) w_136 rfl rfl dX2_nextToken_93 ?_
            refine lv_iconst (v := (nI 2)) hx hb dX2_nextToken_96 (by decide +kernel) ?_
            refine lv_icmp_ne (tgt := 128) hx hb dX2_nextToken_97 (by decide) (fun c_13 => ?_) (fun c_13 => ?_)
            · skip
              have c_13 := b_ne (by omega) (by omega) c_13
              have hB : bq = tkB ft sz aq := nt_B h_tx (by omega) (by omega) ezk hb1 hb2 hb3 (Or.inr (Or.inl ⟨by omega, by omega⟩))
              refine lv_aload_n hx hb dX2_nextToken_128 rfl (lv_at hl 0 rfl) ?_
              refine g_get hC V (ci := 2) uwX2 0 rfl rfl 5 (by decide) w_136 rfl rfl dX2_nextToken_129 ?_
              refine lv_bipush (v := (nI 6)) hx hb dX2_nextToken_132 (by decide +kernel) ?_
              refine lv_icmp_eq (tgt := 158) hx hb dX2_nextToken_134 (by decide) (fun c_14 => ?_) (fun c_14 => ?_)
              · skip
                have c_14 := b_eq (by omega) (by omega) c_14
                refine lv_aload_n hx hb dX2_nextToken_158 rfl (lv_at hl 0 rfl) ?_
                refine lv_bipush (v := (nI 6)) hx hb dX2_nextToken_159 (by decide +kernel) ?_
                refine g_put hC V (ci := 2) uwX2 tyX2 tyX2_ok nmX2 0 rfl rfl 5 (by decide) w_136 rfl rfl rfl rfl (Nat.le_of_ble_eq_true rfl) (ws' := [(t0, .inr (2, [.int tf, .int (nI tu), .int tl, .ref t1, .int (nI sz), .int (nI 6), .int (nI aq), .int (nI bq)])), (t1, .inl (T 3, 900, .inl tx))]) rfl dX2_nextToken_161 (fun H locs V => ?_)
                refine lv_aload_n hx hb dX2_nextToken_164 rfl (lv_at hl 0 rfl) ?_
                refine lv_iconst (v := (nI 1)) hx hb dX2_nextToken_165 (by decide +kernel) ?_
                refine g_callVU (nA := 1) hC V hl.1 (f_fail0 l D T t0 1 tf tu tl t1 sz (nI 6) aq (nI bq) h_u) w_317 w_319 w_s2 w_4 w_320 (by decide +kernel) rfl ⟨(Nat.le_of_ble_eq_true rfl), (Nat.le_of_ble_eq_true rfl)⟩ 0 (ci := 2) rfl rfl [0] rfl rfl (Nat.le_of_ble_eq_true rfl) dX2_nextToken_166 ⟨(Nat.le_of_ble_eq_true rfl), (Nat.le_of_ble_eq_true rfl)⟩ rfl (fun r w1 H locs hQ V => ?_)
                obtain ⟨rfl, rfl⟩ := hQ
                have V : gW D T A s [(t0, .inr (2, [.int tf, .int (nI 1), .int (nI aq), .ref t1, .int (nI sz), .int (nI 6), .int (nI aq), .int (nI bq)])), (t1, .inl (T 3, 900, .inl tx))] H locs := V _ [0] rfl rfl rfl (by decide +kernel) rfl
                show W p l e _ s m args below meth c H locs _ _ _ (F0 m 169 ls [])
                exact g_vret (Qr := (q_f_nextToken T ft nu wa t0 tf tu tl t1 sz tk tr be tx)) hC V ⟨(Nat.le_of_ble_eq_true rfl), (Nat.le_of_ble_eq_true rfl)⟩ ⟨(nxS ft sz (0, be, 0, nu, 0, wa)), rfl, (by obtain ⟨q1, q2, q3, q4, q5⟩ := nt_f (nu := nu) (wa := wa) h_tx haq2 hB ezk (by omega); rw [q1, q2, q3, q4, q5]), rfl⟩ dX2_nextToken_169
              · skip
                have c_14 := b_ne (by omega) (by omega) c_14
                refine lv_aload_n hx hb dX2_nextToken_137 rfl (lv_at hl 0 rfl) ?_
                refine g_get hC V (ci := 2) uwX2 0 rfl rfl 5 (by decide) w_136 rfl rfl dX2_nextToken_138 ?_
                refine lv_iconst (v := (nI 2)) hx hb dX2_nextToken_141 (by decide +kernel) ?_
                refine lv_icmp_ne (tgt := 169) hx hb dX2_nextToken_142 (by decide) (fun c_15 => ?_) (fun c_15 => ?_)
                · skip
                  have c_15 := b_ne (by omega) (by omega) c_15
                  exact g_vret (Qr := (q_f_nextToken T ft nu wa t0 tf tu tl t1 sz tk tr be tx)) hC V ⟨(Nat.le_of_ble_eq_true rfl), (Nat.le_of_ble_eq_true rfl)⟩ ⟨(nxS ft sz (0, be, 0, nu, 0, wa)), rfl, (by obtain ⟨q1, q2, q3, q4, q5⟩ := nt_v (nu := nu) (wa := wa) h_tx (by omega) haq2 hB ezk hnb2 (by omega) (by omega); rw [q1, q2, q3, q4, q5, h_u, h_l]), rfl⟩ dX2_nextToken_169
                · skip
                  have c_15 := b_eq (by omega) (by omega) c_15
                  refine lv_aload_n hx hb dX2_nextToken_145 rfl (lv_at hl 0 rfl) ?_
                  refine g_get hC V (ci := 2) uwX2 0 rfl rfl 7 (by decide) w_138 rfl rfl dX2_nextToken_146 ?_
                  refine lv_aload_n hx hb dX2_nextToken_149 rfl (lv_at hl 0 rfl) ?_
                  refine g_get hC V (ci := 2) uwX2 0 rfl rfl 6 (by decide) w_137 rfl rfl dX2_nextToken_150 ?_
                  refine lv_isub hx hb dX2_nextToken_153 ?_
                  refine g_vi (y := (nI (bq - aq))) (nI_sub (by omega)) ?_
                  refine lv_iconst (v := (nI 3)) hx hb dX2_nextToken_154 (by decide +kernel) ?_
                  refine lv_icmp_le (tgt := 169) hx hb dX2_nextToken_155 (by decide) (fun c_16 => ?_) (fun c_16 => ?_)
                  · skip
                    have c_16 := b_le (by omega) (by omega) c_16
                    exact g_vret (Qr := (q_f_nextToken T ft nu wa t0 tf tu tl t1 sz tk tr be tx)) hC V ⟨(Nat.le_of_ble_eq_true rfl), (Nat.le_of_ble_eq_true rfl)⟩ ⟨(nxS ft sz (0, be, 0, nu, 0, wa)), rfl, (by obtain ⟨q1, q2, q3, q4, q5⟩ := nt_v (nu := nu) (wa := wa) h_tx (by omega) haq2 hB ezk hnb2 (by omega) (by omega); rw [q1, q2, q3, q4, q5, h_u, h_l]), rfl⟩ dX2_nextToken_169
                  · skip
                    have c_16 := b_nle (by omega) (by omega) c_16
                    refine lv_aload_n hx hb dX2_nextToken_158 rfl (lv_at hl 0 rfl) ?_
                    refine lv_bipush (v := (nI 6)) hx hb dX2_nextToken_159 (by decide +kernel) ?_
                    refine g_put hC V (ci := 2) uwX2 tyX2 tyX2_ok nmX2 0 rfl rfl 5 (by decide) w_136 rfl rfl rfl rfl (Nat.le_of_ble_eq_true rfl) (ws' := [(t0, .inr (2, [.int tf, .int (nI tu), .int tl, .ref t1, .int (nI sz), .int (nI 6), .int (nI aq), .int (nI bq)])), (t1, .inl (T 3, 900, .inl tx))]) rfl dX2_nextToken_161 (fun H locs V => ?_)
                    refine lv_aload_n hx hb dX2_nextToken_164 rfl (lv_at hl 0 rfl) ?_
                    refine lv_iconst (v := (nI 1)) hx hb dX2_nextToken_165 (by decide +kernel) ?_
                    refine g_callVU (nA := 1) hC V hl.1 (f_fail0 l D T t0 1 tf tu tl t1 sz (nI 6) aq (nI bq) h_u) w_317 w_319 w_s2 w_4 w_320 (by decide +kernel) rfl ⟨(Nat.le_of_ble_eq_true rfl), (Nat.le_of_ble_eq_true rfl)⟩ 0 (ci := 2) rfl rfl [0] rfl rfl (Nat.le_of_ble_eq_true rfl) dX2_nextToken_166 ⟨(Nat.le_of_ble_eq_true rfl), (Nat.le_of_ble_eq_true rfl)⟩ rfl (fun r w1 H locs hQ V => ?_)
                    obtain ⟨rfl, rfl⟩ := hQ
                    have V : gW D T A s [(t0, .inr (2, [.int tf, .int (nI 1), .int (nI aq), .ref t1, .int (nI sz), .int (nI 6), .int (nI aq), .int (nI bq)])), (t1, .inl (T 3, 900, .inl tx))] H locs := V _ [0] rfl rfl rfl (by decide +kernel) rfl
                    show W p l e _ s m args below meth c H locs _ _ _ (F0 m 169 ls [])
                    exact g_vret (Qr := (q_f_nextToken T ft nu wa t0 tf tu tl t1 sz tk tr be tx)) hC V ⟨(Nat.le_of_ble_eq_true rfl), (Nat.le_of_ble_eq_true rfl)⟩ ⟨(nxS ft sz (0, be, 0, nu, 0, wa)), rfl, (by obtain ⟨q1, q2, q3, q4, q5⟩ := nt_f (nu := nu) (wa := wa) h_tx haq2 hB ezk (by omega); rw [q1, q2, q3, q4, q5]), rfl⟩ dX2_nextToken_169
            · skip
              have c_13 := b_eq (by omega) (by omega) c_13
              refine lv_aload_n hx hb dX2_nextToken_100 rfl (lv_at hl 0 rfl) ?_
              refine lv_aload_n hx hb dX2_nextToken_101 rfl (lv_at hl 0 rfl) ?_
              refine g_get hC V (ci := 2) uwX2 0 rfl rfl 7 (by decide) w_138 rfl rfl dX2_nextToken_102 ?_
              refine g_callV (wr := []) (nA := 1) hC V hl.1 (f_kindAt l D T ft t0 bq tf (nI tu) tl t1 sz (nI zk) (nI aq) (nI bq) tx (by first | assumption | omega) (by first | assumption | omega) (by first | assumption | omega)) w_313 w_315 w_s1 w_4 w_316 (by decide +kernel) rfl ⟨(Nat.le_of_ble_eq_true rfl), (Nat.le_of_ble_eq_true rfl)⟩ 0 (ci := 2) rfl rfl [0, 1] [] rfl rfl rfl rfl (by decide) (Nat.le_of_ble_eq_true rfl) dX2_nextToken_105 ⟨(Nat.le_of_ble_eq_true rfl), (Nat.le_of_ble_eq_true rfl)⟩ rfl (fun r w1 H locs hQ V => ?_)
              obtain ⟨zb, rfl, rfl, f_17⟩ := hQ
              have V : gW D T A s [(t0, .inr (2, [.int tf, .int (nI tu), .int tl, .ref t1, .int (nI sz), .int (nI zk), .int (nI aq), .int (nI bq)])), (t1, .inl (T 3, 900, .inl tx))] H locs := V
              show W p l e _ s m args below meth c H locs _ _ _ (F0 m 108 ls [.int (nI zb)])
              have hzb6 := ckA_le h_tx bq
              have ezb := f_17
              refine lv_aload_n hx hb dX2_nextToken_108 rfl (lv_at hl 0 rfl) ?_
              refine g_get hC V (ci := 2) uwX2 0 rfl rfl 5 (by decide) w_136 rfl rfl dX2_nextToken_109 ?_
              refine lv_icmp_ne (tgt := 128) hx hb dX2_nextToken_112 (by decide) (fun c_18 => ?_) (fun c_18 => ?_)
              · skip
                have c_18 := b_ne (by omega) (by omega) c_18
                have hB : bq = tkB ft sz aq := nt_B h_tx (by omega) (by omega) ezk hb1 hb2 hb3 (Or.inr (Or.inr ⟨by omega, by omega⟩))
                refine lv_aload_n hx hb dX2_nextToken_128 rfl (lv_at hl 0 rfl) ?_
                refine g_get hC V (ci := 2) uwX2 0 rfl rfl 5 (by decide) w_136 rfl rfl dX2_nextToken_129 ?_
                refine lv_bipush (v := (nI 6)) hx hb dX2_nextToken_132 (by decide +kernel) ?_
                refine lv_icmp_eq (tgt := 158) hx hb dX2_nextToken_134 (by decide) (fun c_19 => ?_) (fun c_19 => ?_)
                · skip
                  have c_19 := b_eq (by omega) (by omega) c_19
                  refine lv_aload_n hx hb dX2_nextToken_158 rfl (lv_at hl 0 rfl) ?_
                  refine lv_bipush (v := (nI 6)) hx hb dX2_nextToken_159 (by decide +kernel) ?_
                  refine g_put hC V (ci := 2) uwX2 tyX2 tyX2_ok nmX2 0 rfl rfl 5 (by decide) w_136 rfl rfl rfl rfl (Nat.le_of_ble_eq_true rfl) (ws' := [(t0, .inr (2, [.int tf, .int (nI tu), .int tl, .ref t1, .int (nI sz), .int (nI 6), .int (nI aq), .int (nI bq)])), (t1, .inl (T 3, 900, .inl tx))]) rfl dX2_nextToken_161 (fun H locs V => ?_)
                  refine lv_aload_n hx hb dX2_nextToken_164 rfl (lv_at hl 0 rfl) ?_
                  refine lv_iconst (v := (nI 1)) hx hb dX2_nextToken_165 (by decide +kernel) ?_
                  refine g_callVU (nA := 1) hC V hl.1 (f_fail0 l D T t0 1 tf tu tl t1 sz (nI 6) aq (nI bq) h_u) w_317 w_319 w_s2 w_4 w_320 (by decide +kernel) rfl ⟨(Nat.le_of_ble_eq_true rfl), (Nat.le_of_ble_eq_true rfl)⟩ 0 (ci := 2) rfl rfl [0] rfl rfl (Nat.le_of_ble_eq_true rfl) dX2_nextToken_166 ⟨(Nat.le_of_ble_eq_true rfl), (Nat.le_of_ble_eq_true rfl)⟩ rfl (fun r w1 H locs hQ V => ?_)
                  obtain ⟨rfl, rfl⟩ := hQ
                  have V : gW D T A s [(t0, .inr (2, [.int tf, .int (nI 1), .int (nI aq), .ref t1, .int (nI sz), .int (nI 6), .int (nI aq), .int (nI bq)])), (t1, .inl (T 3, 900, .inl tx))] H locs := V _ [0] rfl rfl rfl (by decide +kernel) rfl
                  show W p l e _ s m args below meth c H locs _ _ _ (F0 m 169 ls [])
                  exact g_vret (Qr := (q_f_nextToken T ft nu wa t0 tf tu tl t1 sz tk tr be tx)) hC V ⟨(Nat.le_of_ble_eq_true rfl), (Nat.le_of_ble_eq_true rfl)⟩ ⟨(nxS ft sz (0, be, 0, nu, 0, wa)), rfl, (by obtain ⟨q1, q2, q3, q4, q5⟩ := nt_f (nu := nu) (wa := wa) h_tx haq2 hB ezk (by omega); rw [q1, q2, q3, q4, q5]), rfl⟩ dX2_nextToken_169
                · skip
                  have c_19 := b_ne (by omega) (by omega) c_19
                  refine lv_aload_n hx hb dX2_nextToken_137 rfl (lv_at hl 0 rfl) ?_
                  refine g_get hC V (ci := 2) uwX2 0 rfl rfl 5 (by decide) w_136 rfl rfl dX2_nextToken_138 ?_
                  refine lv_iconst (v := (nI 2)) hx hb dX2_nextToken_141 (by decide +kernel) ?_
                  refine lv_icmp_ne (tgt := 169) hx hb dX2_nextToken_142 (by decide) (fun c_20 => ?_) (fun c_20 => ?_)
                  · skip
                    have c_20 := b_ne (by omega) (by omega) c_20
                    exact g_vret (Qr := (q_f_nextToken T ft nu wa t0 tf tu tl t1 sz tk tr be tx)) hC V ⟨(Nat.le_of_ble_eq_true rfl), (Nat.le_of_ble_eq_true rfl)⟩ ⟨(nxS ft sz (0, be, 0, nu, 0, wa)), rfl, (by obtain ⟨q1, q2, q3, q4, q5⟩ := nt_v (nu := nu) (wa := wa) h_tx (by omega) haq2 hB ezk hnb2 (by omega) (by omega); rw [q1, q2, q3, q4, q5, h_u, h_l]), rfl⟩ dX2_nextToken_169
                  · skip
                    have c_20 := b_eq (by omega) (by omega) c_20
                    refine lv_aload_n hx hb dX2_nextToken_145 rfl (lv_at hl 0 rfl) ?_
                    refine g_get hC V (ci := 2) uwX2 0 rfl rfl 7 (by decide) w_138 rfl rfl dX2_nextToken_146 ?_
                    refine lv_aload_n hx hb dX2_nextToken_149 rfl (lv_at hl 0 rfl) ?_
                    refine g_get hC V (ci := 2) uwX2 0 rfl rfl 6 (by decide) w_137 rfl rfl dX2_nextToken_150 ?_
                    refine lv_isub hx hb dX2_nextToken_153 ?_
                    refine g_vi (y := (nI (bq - aq))) (nI_sub (by omega)) ?_
                    refine lv_iconst (v := (nI 3)) hx hb dX2_nextToken_154 (by decide +kernel) ?_
                    refine lv_icmp_le (tgt := 169) hx hb dX2_nextToken_155 (by decide) (fun c_21 => ?_) (fun c_21 => ?_)
                    · skip
                      have c_21 := b_le (by omega) (by omega) c_21
                      exact g_vret (Qr := (q_f_nextToken T ft nu wa t0 tf tu tl t1 sz tk tr be tx)) hC V ⟨(Nat.le_of_ble_eq_true rfl), (Nat.le_of_ble_eq_true rfl)⟩ ⟨(nxS ft sz (0, be, 0, nu, 0, wa)), rfl, (by obtain ⟨q1, q2, q3, q4, q5⟩ := nt_v (nu := nu) (wa := wa) h_tx (by omega) haq2 hB ezk hnb2 (by omega) (by omega); rw [q1, q2, q3, q4, q5, h_u, h_l]), rfl⟩ dX2_nextToken_169
                    · skip
                      have c_21 := b_nle (by omega) (by omega) c_21
                      refine lv_aload_n hx hb dX2_nextToken_158 rfl (lv_at hl 0 rfl) ?_
                      refine lv_bipush (v := (nI 6)) hx hb dX2_nextToken_159 (by decide +kernel) ?_
                      refine g_put hC V (ci := 2) uwX2 tyX2 tyX2_ok nmX2 0 rfl rfl 5 (by decide) w_136 rfl rfl rfl rfl (Nat.le_of_ble_eq_true rfl) (ws' := [(t0, .inr (2, [.int tf, .int (nI tu), .int tl, .ref t1, .int (nI sz), .int (nI 6), .int (nI aq), .int (nI bq)])), (t1, .inl (T 3, 900, .inl tx))]) rfl dX2_nextToken_161 (fun H locs V => ?_)
                      refine lv_aload_n hx hb dX2_nextToken_164 rfl (lv_at hl 0 rfl) ?_
                      refine lv_iconst (v := (nI 1)) hx hb dX2_nextToken_165 (by decide +kernel) ?_
                      refine g_callVU (nA := 1) hC V hl.1 (f_fail0 l D T t0 1 tf tu tl t1 sz (nI 6) aq (nI bq) h_u) w_317 w_319 w_s2 w_4 w_320 (by decide +kernel) rfl ⟨(Nat.le_of_ble_eq_true rfl), (Nat.le_of_ble_eq_true rfl)⟩ 0 (ci := 2) rfl rfl [0] rfl rfl (Nat.le_of_ble_eq_true rfl) dX2_nextToken_166 ⟨(Nat.le_of_ble_eq_true rfl), (Nat.le_of_ble_eq_true rfl)⟩ rfl (fun r w1 H locs hQ V => ?_)
                      obtain ⟨rfl, rfl⟩ := hQ
                      have V : gW D T A s [(t0, .inr (2, [.int tf, .int (nI 1), .int (nI aq), .ref t1, .int (nI sz), .int (nI 6), .int (nI aq), .int (nI bq)])), (t1, .inl (T 3, 900, .inl tx))] H locs := V _ [0] rfl rfl rfl (by decide +kernel) rfl
                      show W p l e _ s m args below meth c H locs _ _ _ (F0 m 169 ls [])
                      exact g_vret (Qr := (q_f_nextToken T ft nu wa t0 tf tu tl t1 sz tk tr be tx)) hC V ⟨(Nat.le_of_ble_eq_true rfl), (Nat.le_of_ble_eq_true rfl)⟩ ⟨(nxS ft sz (0, be, 0, nu, 0, wa)), rfl, (by obtain ⟨q1, q2, q3, q4, q5⟩ := nt_f (nu := nu) (wa := wa) h_tx haq2 hB ezk (by omega); rw [q1, q2, q3, q4, q5]), rfl⟩ dX2_nextToken_169
              · skip
                have c_18 := b_eq (by omega) (by omega) c_18
                refine lv_aload_n hx hb dX2_nextToken_115 rfl (lv_at hl 0 rfl) ?_
                refine lv_dup hx hb dX2_nextToken_116 rfl ?_
                refine g_get hC V (ci := 2) uwX2 0 rfl rfl 7 (by decide) w_138 rfl rfl dX2_nextToken_117 ?_
                refine lv_iconst (v := (nI 1)) hx hb dX2_nextToken_120 (by decide +kernel) ?_
                refine lv_iadd hx hb dX2_nextToken_121 ?_
                refine g_vi (y := (nI (bq + 1))) (nI_add _ _) ?_
                refine g_put hC V (ci := 2) uwX2 tyX2 tyX2_ok nmX2 0 rfl rfl 7 (by decide) w_138 rfl rfl rfl rfl (Nat.le_of_ble_eq_true rfl) (ws' := [(t0, .inr (2, [.int tf, .int (nI tu), .int tl, .ref t1, .int (nI sz), .int (nI zk), .int (nI aq), .int (nI (bq + 1))])), (t1, .inl (T 3, 900, .inl tx))]) rfl dX2_nextToken_122 (fun H locs V => ?_)
                refine lv_goto (tgt := 73) hx hb dX2_nextToken_125 (by decide) ?_
                exact ih_73 (bq + 1) (by omega) (fun h => (rn_go (by omega) ((ckA_sm h_tx (by omega) ezb).mp (by omega))).symm.trans (hb1 h)) (fun h => (rn_go (by omega) ((ckA_dg h_tx (by omega) ezb).mp (by omega))).symm.trans (hb2 h)) (fun h1 h2 => by omega) (by omega) _ _ _ V (lv_sub hl [0] rfl)
    exact L_2 _ (min (aq + 1) sz) (by omega) (fun h => by have hl_ : aq < sz := nt_lt h_tx ezk (by omega); exact min_go hl_ ((ckA_sm h_tx hl_ ezk).mp h)) (fun h => by have hl_ : aq < sz := nt_lt h_tx ezk (by omega); exact min_go hl_ ((ckA_dg h_tx hl_ ezk).mp h)) (fun _ _ => rfl) (Nat.lt_succ_self _) _ _ _ V (lv_sub hl [0] rfl)
  have L_22 : ∀ (fu : Nat) (aq : Nat), (be ≤ aq ∧ aq ≤ sz) → rn blkB ft sz aq = rn blkB ft sz be → sz - aq < fu → ∀ (H : Heap) (locs : List Loc) (ls : Array Slot), gW D T A s [(t0, .inr (2, [.int tf, .int (nI tu), .int tl, .ref t1, .int (nI sz), .int tk, .int (nI aq), .int (nI be)])), (t1, .inl (T 3, 900, .inl tx))] H locs → lv_has ls 1 [(0, .ref t0)] → W p l e (rmD 1 0 0) s m args below meth c H locs 0 0 (MQ below (gQ D A (q_f_nextToken T ft nu wa t0 tf tu tl t1 sz tk tr be tx)) args s 0 0 A) (F0 m 8 ls []) := by
    intro fu_8
    induction fu_8 with
    | zero => intro aq haq hrn hmu; exact absurd hmu (Nat.not_lt_zero _)
    | succ fu_8 ih_8 =>
      intro aq haq hrn hmu_8 H locs ls V hl
      refine lv_aload_n hx hb dX2_nextToken_8 rfl (lv_at hl 0 rfl) ?_
      refine g_get hC V (ci := 2) uwX2 0 rfl rfl 6 (by decide) w_137 rfl rfl dX2_nextToken_9 ?_
      refine lv_aload_n hx hb dX2_nextToken_12 rfl (lv_at hl 0 rfl) ?_
      refine g_get hC V (ci := 2) uwX2 0 rfl rfl 4 (by decide) w_135 rfl rfl dX2_nextToken_13 ?_
      refine lv_icmp_ge (tgt := 44) hx hb dX2_nextToken_16 (by decide) (fun c_23 => ?_) (fun c_23 => ?_)
      · skip
        have c_23 := b_le (by omega) (by omega) c_23
        exact J_44 aq (by omega) (by first | exact rn_st hrn hst | exact rn_st hrn (rn_end (by omega))) (fun hq => by first | exact hnb | (exfalso; omega)) _ _ _ V (lv_sub hl [0] rfl)
      · skip
        have c_23 := b_nle (by omega) (by omega) c_23
        refine lv_aload_n hx hb dX2_nextToken_19 rfl (lv_at hl 0 rfl) ?_
        refine lv_aload_n hx hb dX2_nextToken_20 rfl (lv_at hl 0 rfl) ?_
        refine g_get hC V (ci := 2) uwX2 0 rfl rfl 6 (by decide) w_137 rfl rfl dX2_nextToken_21 ?_
        refine g_callV (wr := []) (nA := 1) hC V hl.1 (f_kindAt l D T ft t0 aq tf (nI tu) tl t1 sz tk (nI aq) (nI be) tx (by first | assumption | omega) (by first | assumption | omega) (by first | assumption | omega)) w_313 w_315 w_s1 w_4 w_316 (by decide +kernel) rfl ⟨(Nat.le_of_ble_eq_true rfl), (Nat.le_of_ble_eq_true rfl)⟩ 0 (ci := 2) rfl rfl [0, 1] [] rfl rfl rfl rfl (by decide) (Nat.le_of_ble_eq_true rfl) dX2_nextToken_24 ⟨(Nat.le_of_ble_eq_true rfl), (Nat.le_of_ble_eq_true rfl)⟩ rfl (fun r w1 H locs hQ V => ?_)
        obtain ⟨z_24, rfl, rfl, f_25⟩ := hQ
        have V : gW D T A s [(t0, .inr (2, [.int tf, .int (nI tu), .int tl, .ref t1, .int (nI sz), .int tk, .int (nI aq), .int (nI be)])), (t1, .inl (T 3, 900, .inl tx))] H locs := V
        show W p l e _ s m args below meth c H locs _ _ _ (F0 m 27 ls [.int (nI z_24)])
        have hz24 := ckA_le h_tx aq
        refine lv_iconst (v := (nI 4)) hx hb dX2_nextToken_27 (by decide +kernel) ?_
        refine lv_icmp_ne (tgt := 44) hx hb dX2_nextToken_28 (by decide) (fun c_26 => ?_) (fun c_26 => ?_)
        · skip
          have c_26 := b_ne (by omega) (by omega) c_26
          have hnb : ¬ blkB (ft aq) = true := fun q => c_26 ((ckA_bl h_tx (by omega) f_25).mpr q)
          have hst := rn_no (sz := sz) hnb
          exact J_44 aq (by omega) (by first | exact rn_st hrn hst | exact rn_st hrn (rn_end (by omega))) (fun hq => by first | exact hnb | (exfalso; omega)) _ _ _ V (lv_sub hl [0] rfl)
        · skip
          have c_26 := b_eq (by omega) (by omega) c_26
          have hgo := (ckA_bl h_tx (by omega) f_25).mp c_26
          refine lv_aload_n hx hb dX2_nextToken_31 rfl (lv_at hl 0 rfl) ?_
          refine lv_dup hx hb dX2_nextToken_32 rfl ?_
          refine g_get hC V (ci := 2) uwX2 0 rfl rfl 6 (by decide) w_137 rfl rfl dX2_nextToken_33 ?_
          refine lv_iconst (v := (nI 1)) hx hb dX2_nextToken_36 (by decide +kernel) ?_
          refine lv_iadd hx hb dX2_nextToken_37 ?_
          refine g_vi (y := (nI (aq + 1))) (nI_add _ _) ?_
          refine g_put hC V (ci := 2) uwX2 tyX2 tyX2_ok nmX2 0 rfl rfl 6 (by decide) w_137 rfl rfl rfl rfl (Nat.le_of_ble_eq_true rfl) (ws' := [(t0, .inr (2, [.int tf, .int (nI tu), .int tl, .ref t1, .int (nI sz), .int tk, .int (nI (aq + 1)), .int (nI be)])), (t1, .inl (T 3, 900, .inl tx))]) rfl dX2_nextToken_38 (fun H locs V => ?_)
          refine lv_goto (tgt := 8) hx hb dX2_nextToken_41 (by decide) ?_
          exact ih_8 (aq + 1) (by omega) ((rn_go (by omega) hgo).symm.trans hrn) (by omega) _ _ _ V (lv_sub hl [0] rfl)
  exact L_22 _ be (by omega) rfl (Nat.lt_succ_self _) _ _ _ V (lv_sub hl [0] rfl)

def q_f_fail (T : Nat → ClassId) (ps : PS) (t0 : Nat) (f : Nat) (tf : Int32) (t1 : Nat) (sz : Nat) : Option Value → va_W → Prop := fun rr ww => (∃ (p2 : PS), rr = none ∧ ww = [(t0, .inr (2, [.int tf, .int (nI (cF p2)), .int (cP p2), .ref t1, .int (nI sz), .int (nI (cK p2.2.2.1)), .int (nI p2.1), .int (nI p2.2.1)]))] ∧ p2 = faS f ps)
set_option maxHeartbeats 4000000 in
set_option maxRecDepth 100000 in
theorem f_fail (l : Launch) (D : va_G) (T : Nat → ClassId) (ps : PS) (t0 : Nat) (f : Nat) (tf : Int32) (t1 : Nat) (sz : Nat) (h_f : ¬ f = 0) (h_c : cF ps ≤ 4) : Ct l yX2_fail cX2_fail 2 none 0 0 0 D T [.ref t0, .int (nI f)] [(t0, .inr (2, [.int tf, .int (nI (cF ps)), .int (cP ps), .ref t1, .int (nI sz), .int (nI (cK ps.2.2.1)), .int (nI ps.1), .int (nI ps.2.1)]))] (q_f_fail T ps t0 f tf t1 sz) := by
  refine Ct.of (cc := cX2_fail) (maxL := 2) (ret := none) (by decide) (Nat.le_of_ble_eq_true rfl) ?_
  intro p e s m args below meth c A ls hC hnm V hl
  obtain ⟨hx, hb, hr, hml, hown, hts, hlocks⟩ := id hC
  generalize hH : s.heap = H at V ⊢
  clear hH
  have hl : lv_has ls 2 [(0, .ref t0), (1, .int (nI f))] := hl
  generalize hlo : ([] : List Loc) = locs at V ⊢
  clear hlo
  refine lv_aload_n hx hb dX2_fail_0 rfl (lv_at hl 0 rfl) ?_
  refine g_get hC V (ci := 2) uwX2 0 rfl rfl 1 (by decide) w_130 rfl rfl dX2_fail_1 ?_
  refine lv_if_ne (tgt := 20) hx hb dX2_fail_4 (by decide) (fun c_1 => ?_) (fun c_1 => ?_)
  · skip
    rw [show (0 : Int32) = nI 0 from rfl] at c_1
    have c_1 := b_ne (by omega) (by omega) c_1
    exact g_vret (Qr := (q_f_fail T ps t0 f tf t1 sz)) hC V ⟨(Nat.le_of_ble_eq_true rfl), (Nat.le_of_ble_eq_true rfl)⟩ ⟨(faS f ps), rfl, (by obtain ⟨q0, q1, q2, q3, q4⟩ := fa_v1 (f := f) (p := ps) (by assumption); rw [q0, q1, q2, q3, q4]), rfl⟩ dX2_fail_20
  · skip
    rw [show (0 : Int32) = nI 0 from rfl] at c_1
    have c_1 := b_eq (by omega) (by omega) c_1
    refine lv_aload_n hx hb dX2_fail_7 rfl (lv_at hl 0 rfl) ?_
    refine lv_iload_n hx hb dX2_fail_8 rfl (lv_at hl 1 rfl) ?_
    refine g_put hC V (ci := 2) uwX2 tyX2 tyX2_ok nmX2 0 rfl rfl 1 (by decide) w_130 rfl rfl rfl rfl (Nat.le_of_ble_eq_true rfl) (ws' := [(t0, .inr (2, [.int tf, .int (nI f), .int (cP ps), .ref t1, .int (nI sz), .int (nI (cK ps.2.2.1)), .int (nI ps.1), .int (nI ps.2.1)]))]) rfl dX2_fail_9 (fun H locs V => ?_)
    refine lv_aload_n hx hb dX2_fail_12 rfl (lv_at hl 0 rfl) ?_
    refine lv_aload_n hx hb dX2_fail_13 rfl (lv_at hl 0 rfl) ?_
    refine g_get hC V (ci := 2) uwX2 0 rfl rfl 6 (by decide) w_137 rfl rfl dX2_fail_14 ?_
    refine g_put hC V (ci := 2) uwX2 tyX2 tyX2_ok nmX2 0 rfl rfl 2 (by decide) w_132 rfl rfl rfl rfl (Nat.le_of_ble_eq_true rfl) (ws' := [(t0, .inr (2, [.int tf, .int (nI f), .int (nI ps.1), .ref t1, .int (nI sz), .int (nI (cK ps.2.2.1)), .int (nI ps.1), .int (nI ps.2.1)]))]) rfl dX2_fail_17 (fun H locs V => ?_)
    exact g_vret (Qr := (q_f_fail T ps t0 f tf t1 sz)) hC V ⟨(Nat.le_of_ble_eq_true rfl), (Nat.le_of_ble_eq_true rfl)⟩ ⟨(faS f ps), rfl, (by obtain ⟨q0, q1, q2⟩ := fa_v0 (f := f) (p := ps) (by assumption) h_f; rw [q1, q2, q0]), rfl⟩ dX2_fail_20

def q_f_isWord (T : Nat → ClassId) (si : Nat) (ft : Nat → Int32) (ps : PS) (t0 : Nat) (tf : Int32) (t1 : Nat) (sz : Nat) (tx : Nat → Int32) : Option Value → va_W → Prop := fun rr ww => (rr = some (.int (nI 1)) ∧ ww = [(t0, .inr (2, [.int tf, .int (nI (cF ps)), .int (cP ps), .ref t1, .int (nI sz), .int (nI (cK ps.2.2.1)), .int (nI ps.1), .int (nI ps.2.1)])), (t1, .inl (T 3, 900, .inl tx))] ∧ ps.2.2.1 = si) ∨ (rr = some (.int (nI 0)) ∧ ww = [(t0, .inr (2, [.int tf, .int (nI (cF ps)), .int (cP ps), .ref t1, .int (nI sz), .int (nI (cK ps.2.2.1)), .int (nI ps.1), .int (nI ps.2.1)])), (t1, .inl (T 3, 900, .inl tx))] ∧ ¬ ps.2.2.1 = si)
set_option maxHeartbeats 4000000 in
set_option maxRecDepth 100000 in
theorem f_isWord (l : Launch) (D : va_G) (T : Nat → ClassId) (si : Nat) (ft : Nat → Int32) (ps : PS) (t0 : Nat) (tf : Int32) (t1 : Nat) (sz : Nat) (tx : Nat → Int32) (h_sz : sz ≤ 900) (h_tx : TXT sz tx ft) (h_p : PI ft sz ps) (h_i : si < 8) : Ct l yX2_isWord cX2_isWord 3 (some .boolean) 4 0 0 D T [.ref t0, .ref (D.2 9 si)] [(t0, .inr (2, [.int tf, .int (nI (cF ps)), .int (cP ps), .ref t1, .int (nI sz), .int (nI (cK ps.2.2.1)), .int (nI ps.1), .int (nI ps.2.1)])), (t1, .inl (T 3, 900, .inl tx))] (q_f_isWord T si ft ps t0 tf t1 sz tx) := by
  refine Ct.of (cc := cX2_isWord) (maxL := 3) (ret := (some .boolean)) (by decide) (Nat.le_of_ble_eq_true rfl) ?_
  intro p e s m args below meth c A ls hC hnm V hl
  obtain ⟨hx, hb, hr, hml, hown, hts, hlocks⟩ := id hC
  generalize hH : s.heap = H at V ⊢
  clear hH
  have hl : lv_has ls 3 [(0, .ref t0), (1, .ref (D.2 9 si))] := hl
  generalize hlo : ([] : List Loc) = locs at V ⊢
  clear hlo
  obtain ⟨_, _, _, _, -⟩ := id h_p
  have hcF := cF_le (p := ps) (by omega)
  have hcK := cK_le ps.2.2.1
  have hsl := slen_le (i := si) (by omega)
  have h_i9 : si < 9 := by omega
  refine lv_aload_n hx hb dX2_isWord_0 rfl (lv_at hl 0 rfl) ?_
  refine g_get hC V (ci := 2) uwX2 0 rfl rfl 5 (by decide) w_136 rfl rfl dX2_isWord_1 ?_
  refine lv_iconst (v := (nI 1)) hx hb dX2_isWord_4 (by decide +kernel) ?_
  refine lv_icmp_ne (tgt := 24) hx hb dX2_isWord_5 (by decide) (fun c_1 => ?_) (fun c_1 => ?_)
  · skip
    have c_1 := b_ne (by omega) (by omega) c_1
    refine lv_iconst (v := (nI 0)) hx hb dX2_isWord_24 (by decide +kernel) ?_
    exact g_zret (Qr := (q_f_isWord T si ft ps t0 tf t1 sz tx)) hC V ⟨(Nat.le_of_ble_eq_true rfl), (Nat.le_of_ble_eq_true rfl)⟩ (by first | decide +kernel | exact rfl) (.inr ⟨rfl, rfl, (by first | exact iw_len h_p h_i (by omega) | (intro e; have := cK_1 (k := ps.2.2.1); omega))⟩) dX2_isWord_25
  · skip
    have c_1 := b_eq (by omega) (by omega) c_1
    have hw8 := cK_1.mp c_1
    refine lv_aload_n hx hb dX2_isWord_8 rfl (lv_at hl 0 rfl) ?_
    refine g_get hC V (ci := 2) uwX2 0 rfl rfl 7 (by decide) w_138 rfl rfl dX2_isWord_9 ?_
    refine lv_aload_n hx hb dX2_isWord_12 rfl (lv_at hl 0 rfl) ?_
    refine g_get hC V (ci := 2) uwX2 0 rfl rfl 6 (by decide) w_137 rfl rfl dX2_isWord_13 ?_
    refine lv_isub hx hb dX2_isWord_16 ?_
    refine g_vi (y := (nI (ps.2.1 - ps.1))) (nI_sub (by omega)) ?_
    refine lv_aload_n hx hb dX2_isWord_17 rfl (lv_at hl 1 rfl) ?_
    refine g_callZU (nA := 0) hC V hl.1 (z_length l D T si (by omega)) w_326 w_327 w_328 w_12 w_329 (by decide +kernel) rfl ⟨(Nat.le_of_ble_eq_true rfl), (Nat.le_of_ble_eq_true rfl)⟩ (si := si) (by first | assumption | decide) rfl rfl [] rfl rfl (Nat.le_of_ble_eq_true rfl) dX2_isWord_18 ⟨(Nat.le_of_ble_eq_true rfl), (Nat.le_of_ble_eq_true rfl)⟩ rfl (fun r w1 H locs hQ V => ?_)
    obtain ⟨rfl, rfl⟩ := hQ
    have V : gW D T A s [(t0, .inr (2, [.int tf, .int (nI (cF ps)), .int (cP ps), .ref t1, .int (nI sz), .int (nI (cK ps.2.2.1)), .int (nI ps.1), .int (nI ps.2.1)])), (t1, .inl (T 3, 900, .inl tx))] H locs := V _ [] rfl rfl rfl (by decide +kernel) rfl
    show W p l e _ s m args below meth c H locs _ _ _ (F0 m 21 ls [.int (nI (sLen.getD si 0)), .int (nI (ps.2.1 - ps.1))])
    refine lv_icmp_eq (tgt := 26) hx hb dX2_isWord_21 (by decide) (fun c_2 => ?_) (fun c_2 => ?_)
    · skip
      have c_2 := b_eq (by omega) (by omega) c_2
      have hlen : ps.2.1 = ps.1 + sLen.getD si 0 := by omega
      refine lv_iconst (v := (nI 0)) hx hb dX2_isWord_26 (by decide +kernel) ?_
      refine lv_istore_n (lv' := [(2, .int (nI 0)), (0, .ref t0), (1, .ref (D.2 9 si))]) hx hb dX2_isWord_27 rfl hl (by decide) rfl (fun ls hl => ?_)
      have L_3 : ∀ (fu : Nat) (k : Nat), k ≤ sLen.getD si 0 → (∀ j, j < k → ft (ps.1 + j) = sch si j) → sLen.getD si 0 - k < fu → ∀ (H : Heap) (locs : List Loc) (ls : Array Slot), gW D T A s [(t0, .inr (2, [.int tf, .int (nI (cF ps)), .int (cP ps), .ref t1, .int (nI sz), .int (nI (cK ps.2.2.1)), .int (nI ps.1), .int (nI ps.2.1)])), (t1, .inl (T 3, 900, .inl tx))] H locs → lv_has ls 3 [(2, .int (nI k)), (0, .ref t0), (1, .ref (D.2 9 si))] → W p l e (rmD 4 0 0) s m args below meth c H locs 0 0 (MQ below (gQ D A (q_f_isWord T si ft ps t0 tf t1 sz tx)) args s 0 0 A) (F0 m 28 ls []) := by
        intro fu_28
        induction fu_28 with
        | zero => intro k hk hmt hmu; exact absurd hmu (Nat.not_lt_zero _)
        | succ fu_28 ih_28 =>
          intro k hk hmt hmu_28 H locs ls V hl
          refine lv_iload_n hx hb dX2_isWord_28 rfl (lv_at hl 0 rfl) ?_
          refine lv_aload_n hx hb dX2_isWord_29 rfl (lv_at hl 2 rfl) ?_
          refine g_callZU (nA := 0) hC V hl.1 (z_length l D T si (by omega)) w_326 w_327 w_328 w_12 w_329 (by decide +kernel) rfl ⟨(Nat.le_of_ble_eq_true rfl), (Nat.le_of_ble_eq_true rfl)⟩ (si := si) (by first | assumption | decide) rfl rfl [] rfl rfl (Nat.le_of_ble_eq_true rfl) dX2_isWord_30 ⟨(Nat.le_of_ble_eq_true rfl), (Nat.le_of_ble_eq_true rfl)⟩ rfl (fun r w1 H locs hQ V => ?_)
          obtain ⟨rfl, rfl⟩ := hQ
          have V : gW D T A s [(t0, .inr (2, [.int tf, .int (nI (cF ps)), .int (cP ps), .ref t1, .int (nI sz), .int (nI (cK ps.2.2.1)), .int (nI ps.1), .int (nI ps.2.1)])), (t1, .inl (T 3, 900, .inl tx))] H locs := V _ [] rfl rfl rfl (by decide +kernel) rfl
          show W p l e _ s m args below meth c H locs _ _ _ (F0 m 33 ls [.int (nI (sLen.getD si 0)), .int (nI k)])
          refine lv_icmp_ge (tgt := 63) hx hb dX2_isWord_33 (by decide) (fun c_4 => ?_) (fun c_4 => ?_)
          · skip
            have c_4 := b_le (by omega) (by omega) c_4
            refine lv_iconst (v := (nI 1)) hx hb dX2_isWord_63 (by decide +kernel) ?_
            exact g_zret (Qr := (q_f_isWord T si ft ps t0 tf t1 sz tx)) hC V ⟨(Nat.le_of_ble_eq_true rfl), (Nat.le_of_ble_eq_true rfl)⟩ (by first | decide +kernel | exact rfl) (.inl ⟨rfl, rfl, (iw_y h_p h_i hw8 hlen (fun j hj => hmt j (by omega)))⟩) dX2_isWord_64
          · skip
            have c_4 := b_nle (by omega) (by omega) c_4
            refine lv_aload_n hx hb dX2_isWord_36 rfl (lv_at hl 1 rfl) ?_
            refine g_get hC V (ci := 2) uwX2 0 rfl rfl 3 (by decide) w_134 rfl rfl dX2_isWord_37 ?_
            refine lv_aload_n hx hb dX2_isWord_40 rfl (lv_at hl 1 rfl) ?_
            refine g_get hC V (ci := 2) uwX2 0 rfl rfl 6 (by decide) w_137 rfl rfl dX2_isWord_41 ?_
            refine lv_iload_n hx hb dX2_isWord_44 rfl (lv_at hl 0 rfl) ?_
            refine lv_iadd hx hb dX2_isWord_45 ?_
            refine g_vi (y := (nI (ps.1 + k))) (nI_add _ _) ?_
            refine g_bald hC V 1 rfl (vp_in_nI (by omega) (by omega)) (v := (tx (ps.1 + k))) (congrArg _ (nI_clamp (by omega))) dX2_isWord_46 ?_
            refine lv_aload_n hx hb dX2_isWord_47 rfl (lv_at hl 2 rfl) ?_
            refine lv_iload_n hx hb dX2_isWord_48 rfl (lv_at hl 0 rfl) ?_
            refine g_callZU (nA := 1) hC V hl.1 (z_charAt l D T si k (by omega) (by first | assumption | omega)) w_336 w_337 w_338 w_12 w_339 (by decide +kernel) rfl ⟨(Nat.le_of_ble_eq_true rfl), (Nat.le_of_ble_eq_true rfl)⟩ (si := si) (by first | assumption | decide) rfl rfl [] rfl rfl (Nat.le_of_ble_eq_true rfl) dX2_isWord_49 ⟨(Nat.le_of_ble_eq_true rfl), (Nat.le_of_ble_eq_true rfl)⟩ rfl (fun r w1 H locs hQ V => ?_)
            obtain ⟨z_5, rfl, rfl, f_6⟩ := hQ
            have V : gW D T A s [(t0, .inr (2, [.int tf, .int (nI (cF ps)), .int (cP ps), .ref t1, .int (nI sz), .int (nI (cK ps.2.2.1)), .int (nI ps.1), .int (nI ps.2.1)])), (t1, .inl (T 3, 900, .inl tx))] H locs := V _ [] rfl rfl rfl (by decide +kernel) rfl
            show W p l e _ s m args below meth c H locs _ _ _ (F0 m 52 ls [.int z_5, .int (tx (ps.1 + k))])
            refine lv_icmp_eq (tgt := 57) hx hb dX2_isWord_52 (by decide) (fun c_7 => ?_) (fun c_7 => ?_)
            · skip
              have hk8 : k < sLen.getD si 0 := by omega
              have hch := iw_ch h_tx h_p h_i hw8 hk8 hlen
              have hmt2 := mt_one hmt (hch.symm.trans (c_7.trans f_6))
              refine lv_iinc (v := (nI (k + 1))) (lv' := [(2, .int (nI (k + 1))), (0, .ref t0), (1, .ref (D.2 9 si))]) hx hb dX2_isWord_57 hl (k := 0) rfl (nI_1 _) (by decide) rfl (fun ls hl => ?_)
              refine lv_goto (tgt := 28) hx hb dX2_isWord_60 (by decide) ?_
              exact ih_28 (k + 1) (by omega) hmt2 (by omega) _ _ _ V (lv_sub hl [0, 1, 2] rfl)
            · skip
              have hk8 : k < sLen.getD si 0 := by omega
              have hch := iw_ch h_tx h_p h_i hw8 hk8 hlen
              have hne : ¬ ft (ps.1 + k) = sch si k := fun q => c_7 (hch.trans (q.trans f_6.symm))
              refine lv_iconst (v := (nI 0)) hx hb dX2_isWord_55 (by decide +kernel) ?_
              exact g_zret (Qr := (q_f_isWord T si ft ps t0 tf t1 sz tx)) hC V ⟨(Nat.le_of_ble_eq_true rfl), (Nat.le_of_ble_eq_true rfl)⟩ (by first | decide +kernel | exact rfl) (.inr ⟨rfl, rfl, (iw_no h_p h_i hk8 hne)⟩) dX2_isWord_56
      exact L_3 _ 0 (by omega) (fun i h => absurd h (Nat.not_lt_zero _)) (Nat.lt_succ_self _) _ _ _ V (lv_sub hl [0, 1, 2] rfl)
    · skip
      have c_2 := b_ne (by omega) (by omega) c_2
      refine lv_iconst (v := (nI 0)) hx hb dX2_isWord_24 (by decide +kernel) ?_
      exact g_zret (Qr := (q_f_isWord T si ft ps t0 tf t1 sz tx)) hC V ⟨(Nat.le_of_ble_eq_true rfl), (Nat.le_of_ble_eq_true rfl)⟩ (by first | decide +kernel | exact rfl) (.inr ⟨rfl, rfl, (by first | exact iw_len h_p h_i (by omega) | (intro e; have := cK_1 (k := ps.2.2.1); omega))⟩) dX2_isWord_25

def q_f_takeNumber (T : Nat → ClassId) (ft : Nat → Int32) (ps : PS) (t0 : Nat) (lo : Int32) (hi : Int32) (tf : Int32) (t1 : Nat) (sz : Nat) (tx : Nat → Int32) : Option Value → va_W → Prop := fun rr ww => (∃ (z : Int32) (p2 : PS), rr = some (.int z) ∧ ww = [(t0, .inr (2, [.int tf, .int (nI (cF p2)), .int (cP p2), .ref t1, .int (nI sz), .int (nI (cK p2.2.2.1)), .int (nI p2.1), .int (nI p2.2.1)])), (t1, .inl (T 3, 900, .inl tx))] ∧ p2 = tkS ft sz lo hi ps ∧ (cF p2 = 0 → z = ps.2.2.2.1))
set_option maxHeartbeats 4000000 in
set_option maxRecDepth 100000 in
theorem f_takeNumber (l : Launch) (D : va_G) (T : Nat → ClassId) (ft : Nat → Int32) (ps : PS) (t0 : Nat) (lo : Int32) (hi : Int32) (tf : Int32) (t1 : Nat) (sz : Nat) (tx : Nat → Int32) (h_sz : sz ≤ 900) (h_tx : TXT sz tx ft) (h_p : PI ft sz ps) : Ct l yX2_takeNumber cX2_takeNumber 5 (some .int) 2 0 0 D T [.ref t0, .int lo, .int hi] [(t0, .inr (2, [.int tf, .int (nI (cF ps)), .int (cP ps), .ref t1, .int (nI sz), .int (nI (cK ps.2.2.1)), .int (nI ps.1), .int (nI ps.2.1)])), (t1, .inl (T 3, 900, .inl tx))] (q_f_takeNumber T ft ps t0 lo hi tf t1 sz tx) := by
  refine Ct.of (cc := cX2_takeNumber) (maxL := 5) (ret := (some .int)) (by decide) (Nat.le_of_ble_eq_true rfl) ?_
  intro p e s m args below meth c A ls hC hnm V hl
  obtain ⟨hx, hb, hr, hml, hown, hts, hlocks⟩ := id hC
  generalize hH : s.heap = H at V ⊢
  clear hH
  have hl : lv_has ls 5 [(0, .ref t0), (1, .int lo), (2, .int hi)] := hl
  generalize hlo : ([] : List Loc) = locs at V ⊢
  clear hlo
  obtain ⟨_, _, _, _, -⟩ := id h_p
  have hcF := cF_le (p := ps) (by omega)
  have hcK := cK_le ps.2.2.1
  have hnu9 := h_p.2.2.2.2.2.2
  refine lv_iconst (v := (nI 0)) hx hb dX2_takeNumber_0 (by decide +kernel) ?_
  refine lv_istore_n (lv' := [(3, .int (nI 0)), (0, .ref t0), (1, .int lo), (2, .int hi)]) hx hb dX2_takeNumber_1 rfl hl (by decide) rfl (fun ls hl => ?_)
  refine lv_aload_n hx hb dX2_takeNumber_2 rfl (lv_at hl 1 rfl) ?_
  refine g_get hC V (ci := 2) uwX2 0 rfl rfl 6 (by decide) w_137 rfl rfl dX2_takeNumber_3 ?_
  refine lv_istore (lv' := [(4, .int (nI ps.1)), (3, .int (nI 0)), (0, .ref t0), (1, .int lo), (2, .int hi)]) hx hb dX2_takeNumber_6 hl (by decide) rfl (fun ls hl => ?_)
  have L_1 : ∀ (fu : Nat) (at_ : Nat) (wv : Int32), at_ ≤ ps.2.1 → ps.1 ≤ at_ → (ps.2.2.1 = 9 → wv = nuV ft ps.1 (at_ - ps.1)) → ps.2.1 - at_ < fu → ∀ (H : Heap) (locs : List Loc) (ls : Array Slot), gW D T A s [(t0, .inr (2, [.int tf, .int (nI (cF ps)), .int (cP ps), .ref t1, .int (nI sz), .int (nI (cK ps.2.2.1)), .int (nI ps.1), .int (nI ps.2.1)])), (t1, .inl (T 3, 900, .inl tx))] H locs → lv_has ls 5 [(4, .int (nI at_)), (3, .int wv), (0, .ref t0), (1, .int lo), (2, .int hi)] → W p l e (rmD 2 0 0) s m args below meth c H locs 0 0 (MQ below (gQ D A (q_f_takeNumber T ft ps t0 lo hi tf t1 sz tx)) args s 0 0 A) (F0 m 8 ls []) := by
    intro fu_8
    induction fu_8 with
    | zero => intro at_ wv hat_ hat2 hwv hmu; exact absurd hmu (Nat.not_lt_zero _)
    | succ fu_8 ih_8 =>
      intro at_ wv hat_ hat2 hwv hmu_8 H locs ls V hl
      refine lv_aload_n hx hb dX2_takeNumber_8 rfl (lv_at hl 2 rfl) ?_
      refine g_get hC V (ci := 2) uwX2 0 rfl rfl 5 (by decide) w_136 rfl rfl dX2_takeNumber_9 ?_
      refine lv_iconst (v := (nI 2)) hx hb dX2_takeNumber_12 (by decide +kernel) ?_
      refine lv_icmp_ne (tgt := 47) hx hb dX2_takeNumber_13 (by decide) (fun c_2 => ?_) (fun c_2 => ?_)
      · skip
        have c_2 := b_ne (by omega) (by omega) c_2
        refine lv_aload_n hx hb dX2_takeNumber_47 rfl (lv_at hl 2 rfl) ?_
        refine g_get hC V (ci := 2) uwX2 0 rfl rfl 5 (by decide) w_136 rfl rfl dX2_takeNumber_48 ?_
        refine lv_iconst (v := (nI 2)) hx hb dX2_takeNumber_51 (by decide +kernel) ?_
        refine lv_icmp_eq (tgt := 63) hx hb dX2_takeNumber_52 (by decide) (fun c_3 => ?_) (fun c_3 => ?_)
        · skip
          have c_3 := b_eq (by omega) (by omega) c_3
          have h9 := cK_2.mp c_3
          have hwv2 : wv = nuV ft ps.1 (ps.2.1 - ps.1) := by rw [hwv h9]; congr 1; have := cK_2.mpr h9; omega
          refine lv_iload_n hx hb dX2_takeNumber_63 rfl (lv_at hl 1 rfl) ?_
          refine lv_iload_n hx hb dX2_takeNumber_64 rfl (lv_at hl 3 rfl) ?_
          refine lv_iload_n hx hb dX2_takeNumber_65 rfl (lv_at hl 4 rfl) ?_
          refine g_callSNU (nA := 3) (host := RX7) hC V hl.1 (c_isWithin l D T wv lo hi) w_294 (List.mem_of_getElem? (i := 8) rfl) w_2 w_293 (by decide +kernel) rfl ⟨(Nat.le_of_ble_eq_true rfl), (Nat.le_of_ble_eq_true rfl)⟩ [] rfl rfl (Nat.le_of_ble_eq_true rfl) dX2_takeNumber_66 ⟨(Nat.le_of_ble_eq_true rfl), (Nat.le_of_ble_eq_true rfl)⟩ rfl (fun r w1 H locs hQ V => ?_)
          rcases hQ with ⟨rfl, rfl, f_4, f_5⟩ | ⟨rfl, rfl, f_6⟩
          · have V : gW D T A s [(t0, .inr (2, [.int tf, .int (nI (cF ps)), .int (cP ps), .ref t1, .int (nI sz), .int (nI (cK ps.2.2.1)), .int (nI ps.1), .int (nI ps.2.1)])), (t1, .inl (T 3, 900, .inl tx))] H locs := V _ [] rfl rfl rfl (by decide +kernel) rfl
            show W p l e _ s m args below meth c H locs _ _ _ (F0 m 69 ls [.int (nI 1)])
            refine lv_if_ne (tgt := 77) hx hb dX2_takeNumber_69 (by decide) (fun _ => ?_) (fun c => absurd (show (nI 1) = 0 from c) (by decide +kernel))
            refine lv_aload_n hx hb dX2_takeNumber_77 rfl (lv_at hl 2 rfl) ?_
            refine g_get hC V (ci := 2) uwX2 0 rfl rfl 1 (by decide) w_130 rfl rfl dX2_takeNumber_78 ?_
            refine lv_if_eq (tgt := 86) hx hb dX2_takeNumber_81 (by decide) (fun c_7 => ?_) (fun c_7 => ?_)
            · skip
              rw [show (0 : Int32) = nI 0 from rfl] at c_7
              have c_7 := b_eq (by omega) (by omega) c_7
              refine lv_aload_n hx hb dX2_takeNumber_86 rfl (lv_at hl 2 rfl) ?_
              refine g_callV (wr := []) (nA := 0) hC V hl.1 (f_nextToken l D T ft ps.2.2.2.1 ps.2.2.2.2.2 t0 tf (cF ps) (cP ps) t1 sz (nI (cK ps.2.2.1)) (nI ps.1) ps.2.1 tx (by first | assumption | omega) (by first | assumption | omega) (by omega) (by omega) (cP_0 (by omega))) w_309 w_311 w_s0 w_4 w_312 (by decide +kernel) rfl ⟨(Nat.le_of_ble_eq_true rfl), (Nat.le_of_ble_eq_true rfl)⟩ 0 (ci := 2) rfl rfl [0, 1] [] rfl rfl rfl rfl (by decide) (Nat.le_of_ble_eq_true rfl) dX2_takeNumber_87 ⟨(Nat.le_of_ble_eq_true rfl), (Nat.le_of_ble_eq_true rfl)⟩ rfl (fun r w1 H locs hQ V => ?_)
              obtain ⟨p2_8, rfl, rfl, f_9⟩ := hQ
              have V : gW D T A s [(t0, .inr (2, [.int tf, .int (nI (cF p2_8)), .int (cP p2_8), .ref t1, .int (nI sz), .int (nI (cK p2_8.2.2.1)), .int (nI p2_8.1), .int (nI p2_8.2.1)])), (t1, .inl (T 3, 900, .inl tx))] H locs := V
              show W p l e _ s m args below meth c H locs _ _ _ (F0 m 90 ls [])
              refine lv_iload_n hx hb dX2_takeNumber_90 rfl (lv_at hl 1 rfl) ?_
              exact g_iret (Qr := (q_f_takeNumber T ft ps t0 lo hi tf t1 sz tx)) hC V ⟨(Nat.le_of_ble_eq_true rfl), (Nat.le_of_ble_eq_true rfl)⟩ ⟨wv, p2_8, rfl, rfl, (f_9.trans ((nx_c0 (by omega)).trans (tk_ok (cF_0.mp (by omega)).1 h9 (by rw [(hnu9 h9).1, ← hwv2]; assumption) (by rw [(hnu9 h9).1, ← hwv2]; assumption)).symm)), (fun _ => hwv2.trans (hnu9 h9).1.symm)⟩ dX2_takeNumber_91
            · skip
              rw [show (0 : Int32) = nI 0 from rfl] at c_7
              have c_7 := b_ne (by omega) (by omega) c_7
              refine lv_iconst (v := (nI 0)) hx hb dX2_takeNumber_84 (by decide +kernel) ?_
              exact g_iret (Qr := (q_f_takeNumber T ft ps t0 lo hi tf t1 sz tx)) hC V ⟨(Nat.le_of_ble_eq_true rfl), (Nat.le_of_ble_eq_true rfl)⟩ ⟨(nI 0), ps, rfl, rfl, (tk_w (fun q => absurd (cF_0.mpr ⟨q, fun r => by have := cK_2.mp (by assumption); omega⟩) (by omega))).symm, (fun h => absurd h (by omega))⟩ dX2_takeNumber_85
          · have V : gW D T A s [(t0, .inr (2, [.int tf, .int (nI (cF ps)), .int (cP ps), .ref t1, .int (nI sz), .int (nI (cK ps.2.2.1)), .int (nI ps.1), .int (nI ps.2.1)])), (t1, .inl (T 3, 900, .inl tx))] H locs := V _ [] rfl rfl rfl (by decide +kernel) rfl
            show W p l e _ s m args below meth c H locs _ _ _ (F0 m 69 ls [.int (nI 0)])
            refine lv_if_ne (tgt := 77) hx hb dX2_takeNumber_69 (by decide) (fun c => absurd (show (nI 0) = 0 by decide +kernel) c) (fun _ => ?_)
            refine lv_aload_n hx hb dX2_takeNumber_72 rfl (lv_at hl 2 rfl) ?_
            refine lv_iconst (v := (nI 3)) hx hb dX2_takeNumber_73 (by decide +kernel) ?_
            refine g_callVU (nA := 1) hC V hl.1 (f_fail l D T ps t0 3 tf t1 sz (by decide) hcF) w_317 w_319 w_s2 w_4 w_320 (by decide +kernel) rfl ⟨(Nat.le_of_ble_eq_true rfl), (Nat.le_of_ble_eq_true rfl)⟩ 0 (ci := 2) rfl rfl [0] rfl rfl (Nat.le_of_ble_eq_true rfl) dX2_takeNumber_74 ⟨(Nat.le_of_ble_eq_true rfl), (Nat.le_of_ble_eq_true rfl)⟩ rfl (fun r w1 H locs hQ V => ?_)
            obtain ⟨p2_10, rfl, rfl, f_11⟩ := hQ
            have V : gW D T A s [(t0, .inr (2, [.int tf, .int (nI (cF p2_10)), .int (cP p2_10), .ref t1, .int (nI sz), .int (nI (cK p2_10.2.2.1)), .int (nI p2_10.1), .int (nI p2_10.2.1)])), (t1, .inl (T 3, 900, .inl tx))] H locs := V _ [0] rfl rfl rfl (by decide +kernel) rfl
            show W p l e _ s m args below meth c H locs _ _ _ (F0 m 77 ls [])
            have hwp2_10 : ¬ cF p2_10 = 0 := by rw [f_11]; exact fa_cF (by decide)
            have hPp2_10 : PI ft sz p2_10 := by rw [f_11]; exact PI_fa h_p (by decide)
            obtain ⟨_, _, _, _, -⟩ := id hPp2_10
            have hcp2_10 := cF_le (p := p2_10) (by omega)
            refine lv_aload_n hx hb dX2_takeNumber_77 rfl (lv_at hl 2 rfl) ?_
            refine g_get hC V (ci := 2) uwX2 0 rfl rfl 1 (by decide) w_130 rfl rfl dX2_takeNumber_78 ?_
            refine lv_if_eq (tgt := 86) hx hb dX2_takeNumber_81 (by decide) (fun c_12 => ?_) (fun c_12 => ?_)
            · skip
              rw [show (0 : Int32) = nI 0 from rfl] at c_12
              have c_12 := b_eq (by omega) (by omega) c_12
              exact (by omega : False).elim
            · skip
              rw [show (0 : Int32) = nI 0 from rfl] at c_12
              have c_12 := b_ne (by omega) (by omega) c_12
              refine lv_iconst (v := (nI 0)) hx hb dX2_takeNumber_84 (by decide +kernel) ?_
              exact g_iret (Qr := (q_f_takeNumber T ft ps t0 lo hi tf t1 sz tx)) hC V ⟨(Nat.le_of_ble_eq_true rfl), (Nat.le_of_ble_eq_true rfl)⟩ ⟨(nI 0), p2_10, rfl, rfl, (f_11.trans (tk_3w (cK_2.mp (by omega)) (by rw [(hnu9 (cK_2.mp (by omega))).1, ← hwv2]; assumption))), (fun h => absurd h (by omega))⟩ dX2_takeNumber_85
        · skip
          have c_3 := b_ne (by omega) (by omega) c_3
          refine lv_aload_n hx hb dX2_takeNumber_55 rfl (lv_at hl 2 rfl) ?_
          refine lv_iconst (v := (nI 2)) hx hb dX2_takeNumber_56 (by decide +kernel) ?_
          refine g_callVU (nA := 1) hC V hl.1 (f_fail l D T ps t0 2 tf t1 sz (by decide) hcF) w_317 w_319 w_s2 w_4 w_320 (by decide +kernel) rfl ⟨(Nat.le_of_ble_eq_true rfl), (Nat.le_of_ble_eq_true rfl)⟩ 0 (ci := 2) rfl rfl [0] rfl rfl (Nat.le_of_ble_eq_true rfl) dX2_takeNumber_57 ⟨(Nat.le_of_ble_eq_true rfl), (Nat.le_of_ble_eq_true rfl)⟩ rfl (fun r w1 H locs hQ V => ?_)
          obtain ⟨p2_13, rfl, rfl, f_14⟩ := hQ
          have V : gW D T A s [(t0, .inr (2, [.int tf, .int (nI (cF p2_13)), .int (cP p2_13), .ref t1, .int (nI sz), .int (nI (cK p2_13.2.2.1)), .int (nI p2_13.1), .int (nI p2_13.2.1)])), (t1, .inl (T 3, 900, .inl tx))] H locs := V _ [0] rfl rfl rfl (by decide +kernel) rfl
          show W p l e _ s m args below meth c H locs _ _ _ (F0 m 60 ls [])
          have hwp2_13 : ¬ cF p2_13 = 0 := by rw [f_14]; exact fa_cF (by decide)
          have hPp2_13 : PI ft sz p2_13 := by rw [f_14]; exact PI_fa h_p (by decide)
          obtain ⟨_, _, _, _, -⟩ := id hPp2_13
          have hcp2_13 := cF_le (p := p2_13) (by omega)
          refine lv_goto (tgt := 77) hx hb dX2_takeNumber_60 (by decide) ?_
          refine lv_aload_n hx hb dX2_takeNumber_77 rfl (lv_at hl 2 rfl) ?_
          refine g_get hC V (ci := 2) uwX2 0 rfl rfl 1 (by decide) w_130 rfl rfl dX2_takeNumber_78 ?_
          refine lv_if_eq (tgt := 86) hx hb dX2_takeNumber_81 (by decide) (fun c_15 => ?_) (fun c_15 => ?_)
          · skip
            rw [show (0 : Int32) = nI 0 from rfl] at c_15
            have c_15 := b_eq (by omega) (by omega) c_15
            exact (by omega : False).elim
          · skip
            rw [show (0 : Int32) = nI 0 from rfl] at c_15
            have c_15 := b_ne (by omega) (by omega) c_15
            refine lv_iconst (v := (nI 0)) hx hb dX2_takeNumber_84 (by decide +kernel) ?_
            exact g_iret (Qr := (q_f_takeNumber T ft ps t0 lo hi tf t1 sz tx)) hC V ⟨(Nat.le_of_ble_eq_true rfl), (Nat.le_of_ble_eq_true rfl)⟩ ⟨(nI 0), p2_13, rfl, rfl, (f_14.trans (tk_2 (fun q => absurd (cK_2.mpr q.2) (by omega))).symm), (fun h => absurd h (by omega))⟩ dX2_takeNumber_85
      · skip
        have c_2 := b_eq (by omega) (by omega) c_2
        refine lv_iload hx hb dX2_takeNumber_16 (lv_at hl 0 rfl) ?_
        refine lv_aload_n hx hb dX2_takeNumber_18 rfl (lv_at hl 2 rfl) ?_
        refine g_get hC V (ci := 2) uwX2 0 rfl rfl 7 (by decide) w_138 rfl rfl dX2_takeNumber_19 ?_
        refine lv_icmp_ge (tgt := 47) hx hb dX2_takeNumber_22 (by decide) (fun c_16 => ?_) (fun c_16 => ?_)
        · skip
          have c_16 := b_le (by omega) (by omega) c_16
          refine lv_aload_n hx hb dX2_takeNumber_47 rfl (lv_at hl 2 rfl) ?_
          refine g_get hC V (ci := 2) uwX2 0 rfl rfl 5 (by decide) w_136 rfl rfl dX2_takeNumber_48 ?_
          refine lv_iconst (v := (nI 2)) hx hb dX2_takeNumber_51 (by decide +kernel) ?_
          refine lv_icmp_eq (tgt := 63) hx hb dX2_takeNumber_52 (by decide) (fun c_17 => ?_) (fun c_17 => ?_)
          · skip
            have c_17 := b_eq (by omega) (by omega) c_17
            have h9 := cK_2.mp c_17
            have hwv2 : wv = nuV ft ps.1 (ps.2.1 - ps.1) := by rw [hwv h9]; congr 1; have := cK_2.mpr h9; omega
            refine lv_iload_n hx hb dX2_takeNumber_63 rfl (lv_at hl 1 rfl) ?_
            refine lv_iload_n hx hb dX2_takeNumber_64 rfl (lv_at hl 3 rfl) ?_
            refine lv_iload_n hx hb dX2_takeNumber_65 rfl (lv_at hl 4 rfl) ?_
            refine g_callSNU (nA := 3) (host := RX7) hC V hl.1 (c_isWithin l D T wv lo hi) w_294 (List.mem_of_getElem? (i := 8) rfl) w_2 w_293 (by decide +kernel) rfl ⟨(Nat.le_of_ble_eq_true rfl), (Nat.le_of_ble_eq_true rfl)⟩ [] rfl rfl (Nat.le_of_ble_eq_true rfl) dX2_takeNumber_66 ⟨(Nat.le_of_ble_eq_true rfl), (Nat.le_of_ble_eq_true rfl)⟩ rfl (fun r w1 H locs hQ V => ?_)
            rcases hQ with ⟨rfl, rfl, f_18, f_19⟩ | ⟨rfl, rfl, f_20⟩
            · have V : gW D T A s [(t0, .inr (2, [.int tf, .int (nI (cF ps)), .int (cP ps), .ref t1, .int (nI sz), .int (nI (cK ps.2.2.1)), .int (nI ps.1), .int (nI ps.2.1)])), (t1, .inl (T 3, 900, .inl tx))] H locs := V _ [] rfl rfl rfl (by decide +kernel) rfl
              show W p l e _ s m args below meth c H locs _ _ _ (F0 m 69 ls [.int (nI 1)])
              refine lv_if_ne (tgt := 77) hx hb dX2_takeNumber_69 (by decide) (fun _ => ?_) (fun c => absurd (show (nI 1) = 0 from c) (by decide +kernel))
              refine lv_aload_n hx hb dX2_takeNumber_77 rfl (lv_at hl 2 rfl) ?_
              refine g_get hC V (ci := 2) uwX2 0 rfl rfl 1 (by decide) w_130 rfl rfl dX2_takeNumber_78 ?_
              refine lv_if_eq (tgt := 86) hx hb dX2_takeNumber_81 (by decide) (fun c_21 => ?_) (fun c_21 => ?_)
              · skip
                rw [show (0 : Int32) = nI 0 from rfl] at c_21
                have c_21 := b_eq (by omega) (by omega) c_21
                refine lv_aload_n hx hb dX2_takeNumber_86 rfl (lv_at hl 2 rfl) ?_
                refine g_callV (wr := []) (nA := 0) hC V hl.1 (f_nextToken l D T ft ps.2.2.2.1 ps.2.2.2.2.2 t0 tf (cF ps) (cP ps) t1 sz (nI (cK ps.2.2.1)) (nI ps.1) ps.2.1 tx (by first | assumption | omega) (by first | assumption | omega) (by omega) (by omega) (cP_0 (by omega))) w_309 w_311 w_s0 w_4 w_312 (by decide +kernel) rfl ⟨(Nat.le_of_ble_eq_true rfl), (Nat.le_of_ble_eq_true rfl)⟩ 0 (ci := 2) rfl rfl [0, 1] [] rfl rfl rfl rfl (by decide) (Nat.le_of_ble_eq_true rfl) dX2_takeNumber_87 ⟨(Nat.le_of_ble_eq_true rfl), (Nat.le_of_ble_eq_true rfl)⟩ rfl (fun r w1 H locs hQ V => ?_)
                obtain ⟨p2_22, rfl, rfl, f_23⟩ := hQ
                have V : gW D T A s [(t0, .inr (2, [.int tf, .int (nI (cF p2_22)), .int (cP p2_22), .ref t1, .int (nI sz), .int (nI (cK p2_22.2.2.1)), .int (nI p2_22.1), .int (nI p2_22.2.1)])), (t1, .inl (T 3, 900, .inl tx))] H locs := V
                show W p l e _ s m args below meth c H locs _ _ _ (F0 m 90 ls [])
                refine lv_iload_n hx hb dX2_takeNumber_90 rfl (lv_at hl 1 rfl) ?_
                exact g_iret (Qr := (q_f_takeNumber T ft ps t0 lo hi tf t1 sz tx)) hC V ⟨(Nat.le_of_ble_eq_true rfl), (Nat.le_of_ble_eq_true rfl)⟩ ⟨wv, p2_22, rfl, rfl, (f_23.trans ((nx_c0 (by omega)).trans (tk_ok (cF_0.mp (by omega)).1 h9 (by rw [(hnu9 h9).1, ← hwv2]; assumption) (by rw [(hnu9 h9).1, ← hwv2]; assumption)).symm)), (fun _ => hwv2.trans (hnu9 h9).1.symm)⟩ dX2_takeNumber_91
              · skip
                rw [show (0 : Int32) = nI 0 from rfl] at c_21
                have c_21 := b_ne (by omega) (by omega) c_21
                refine lv_iconst (v := (nI 0)) hx hb dX2_takeNumber_84 (by decide +kernel) ?_
                exact g_iret (Qr := (q_f_takeNumber T ft ps t0 lo hi tf t1 sz tx)) hC V ⟨(Nat.le_of_ble_eq_true rfl), (Nat.le_of_ble_eq_true rfl)⟩ ⟨(nI 0), ps, rfl, rfl, (tk_w (fun q => absurd (cF_0.mpr ⟨q, fun r => by have := cK_2.mp (by assumption); omega⟩) (by omega))).symm, (fun h => absurd h (by omega))⟩ dX2_takeNumber_85
            · have V : gW D T A s [(t0, .inr (2, [.int tf, .int (nI (cF ps)), .int (cP ps), .ref t1, .int (nI sz), .int (nI (cK ps.2.2.1)), .int (nI ps.1), .int (nI ps.2.1)])), (t1, .inl (T 3, 900, .inl tx))] H locs := V _ [] rfl rfl rfl (by decide +kernel) rfl
              show W p l e _ s m args below meth c H locs _ _ _ (F0 m 69 ls [.int (nI 0)])
              refine lv_if_ne (tgt := 77) hx hb dX2_takeNumber_69 (by decide) (fun c => absurd (show (nI 0) = 0 by decide +kernel) c) (fun _ => ?_)
              refine lv_aload_n hx hb dX2_takeNumber_72 rfl (lv_at hl 2 rfl) ?_
              refine lv_iconst (v := (nI 3)) hx hb dX2_takeNumber_73 (by decide +kernel) ?_
              refine g_callVU (nA := 1) hC V hl.1 (f_fail l D T ps t0 3 tf t1 sz (by decide) hcF) w_317 w_319 w_s2 w_4 w_320 (by decide +kernel) rfl ⟨(Nat.le_of_ble_eq_true rfl), (Nat.le_of_ble_eq_true rfl)⟩ 0 (ci := 2) rfl rfl [0] rfl rfl (Nat.le_of_ble_eq_true rfl) dX2_takeNumber_74 ⟨(Nat.le_of_ble_eq_true rfl), (Nat.le_of_ble_eq_true rfl)⟩ rfl (fun r w1 H locs hQ V => ?_)
              obtain ⟨p2_24, rfl, rfl, f_25⟩ := hQ
              have V : gW D T A s [(t0, .inr (2, [.int tf, .int (nI (cF p2_24)), .int (cP p2_24), .ref t1, .int (nI sz), .int (nI (cK p2_24.2.2.1)), .int (nI p2_24.1), .int (nI p2_24.2.1)])), (t1, .inl (T 3, 900, .inl tx))] H locs := V _ [0] rfl rfl rfl (by decide +kernel) rfl
              show W p l e _ s m args below meth c H locs _ _ _ (F0 m 77 ls [])
              have hwp2_24 : ¬ cF p2_24 = 0 := by rw [f_25]; exact fa_cF (by decide)
              have hPp2_24 : PI ft sz p2_24 := by rw [f_25]; exact PI_fa h_p (by decide)
              obtain ⟨_, _, _, _, -⟩ := id hPp2_24
              have hcp2_24 := cF_le (p := p2_24) (by omega)
              refine lv_aload_n hx hb dX2_takeNumber_77 rfl (lv_at hl 2 rfl) ?_
              refine g_get hC V (ci := 2) uwX2 0 rfl rfl 1 (by decide) w_130 rfl rfl dX2_takeNumber_78 ?_
              refine lv_if_eq (tgt := 86) hx hb dX2_takeNumber_81 (by decide) (fun c_26 => ?_) (fun c_26 => ?_)
              · skip
                rw [show (0 : Int32) = nI 0 from rfl] at c_26
                have c_26 := b_eq (by omega) (by omega) c_26
                exact (by omega : False).elim
              · skip
                rw [show (0 : Int32) = nI 0 from rfl] at c_26
                have c_26 := b_ne (by omega) (by omega) c_26
                refine lv_iconst (v := (nI 0)) hx hb dX2_takeNumber_84 (by decide +kernel) ?_
                exact g_iret (Qr := (q_f_takeNumber T ft ps t0 lo hi tf t1 sz tx)) hC V ⟨(Nat.le_of_ble_eq_true rfl), (Nat.le_of_ble_eq_true rfl)⟩ ⟨(nI 0), p2_24, rfl, rfl, (f_25.trans (tk_3w (cK_2.mp (by omega)) (by rw [(hnu9 (cK_2.mp (by omega))).1, ← hwv2]; assumption))), (fun h => absurd h (by omega))⟩ dX2_takeNumber_85
          · skip
            have c_17 := b_ne (by omega) (by omega) c_17
            refine lv_aload_n hx hb dX2_takeNumber_55 rfl (lv_at hl 2 rfl) ?_
            refine lv_iconst (v := (nI 2)) hx hb dX2_takeNumber_56 (by decide +kernel) ?_
            refine g_callVU (nA := 1) hC V hl.1 (f_fail l D T ps t0 2 tf t1 sz (by decide) hcF) w_317 w_319 w_s2 w_4 w_320 (by decide +kernel) rfl ⟨(Nat.le_of_ble_eq_true rfl), (Nat.le_of_ble_eq_true rfl)⟩ 0 (ci := 2) rfl rfl [0] rfl rfl (Nat.le_of_ble_eq_true rfl) dX2_takeNumber_57 ⟨(Nat.le_of_ble_eq_true rfl), (Nat.le_of_ble_eq_true rfl)⟩ rfl (fun r w1 H locs hQ V => ?_)
            obtain ⟨p2_27, rfl, rfl, f_28⟩ := hQ
            have V : gW D T A s [(t0, .inr (2, [.int tf, .int (nI (cF p2_27)), .int (cP p2_27), .ref t1, .int (nI sz), .int (nI (cK p2_27.2.2.1)), .int (nI p2_27.1), .int (nI p2_27.2.1)])), (t1, .inl (T 3, 900, .inl tx))] H locs := V _ [0] rfl rfl rfl (by decide +kernel) rfl
            show W p l e _ s m args below meth c H locs _ _ _ (F0 m 60 ls [])
            have hwp2_27 : ¬ cF p2_27 = 0 := by rw [f_28]; exact fa_cF (by decide)
            have hPp2_27 : PI ft sz p2_27 := by rw [f_28]; exact PI_fa h_p (by decide)
            obtain ⟨_, _, _, _, -⟩ := id hPp2_27
            have hcp2_27 := cF_le (p := p2_27) (by omega)
            refine lv_goto (tgt := 77) hx hb dX2_takeNumber_60 (by decide) ?_
            refine lv_aload_n hx hb dX2_takeNumber_77 rfl (lv_at hl 2 rfl) ?_
            refine g_get hC V (ci := 2) uwX2 0 rfl rfl 1 (by decide) w_130 rfl rfl dX2_takeNumber_78 ?_
            refine lv_if_eq (tgt := 86) hx hb dX2_takeNumber_81 (by decide) (fun c_29 => ?_) (fun c_29 => ?_)
            · skip
              rw [show (0 : Int32) = nI 0 from rfl] at c_29
              have c_29 := b_eq (by omega) (by omega) c_29
              exact (by omega : False).elim
            · skip
              rw [show (0 : Int32) = nI 0 from rfl] at c_29
              have c_29 := b_ne (by omega) (by omega) c_29
              refine lv_iconst (v := (nI 0)) hx hb dX2_takeNumber_84 (by decide +kernel) ?_
              exact g_iret (Qr := (q_f_takeNumber T ft ps t0 lo hi tf t1 sz tx)) hC V ⟨(Nat.le_of_ble_eq_true rfl), (Nat.le_of_ble_eq_true rfl)⟩ ⟨(nI 0), p2_27, rfl, rfl, (f_28.trans (tk_2 (fun q => absurd (cK_2.mpr q.2) (by omega))).symm), (fun h => absurd h (by omega))⟩ dX2_takeNumber_85
        · skip
          have c_16 := b_nle (by omega) (by omega) c_16
          refine lv_bipush (v := (nI 10)) hx hb dX2_takeNumber_25 (by decide +kernel) ?_
          refine lv_iload_n hx hb dX2_takeNumber_27 rfl (lv_at hl 1 rfl) ?_
          refine lv_imul hx hb dX2_takeNumber_28 ?_
          refine lv_aload_n hx hb dX2_takeNumber_29 rfl (lv_at hl 2 rfl) ?_
          refine g_get hC V (ci := 2) uwX2 0 rfl rfl 3 (by decide) w_134 rfl rfl dX2_takeNumber_30 ?_
          refine lv_iload hx hb dX2_takeNumber_33 (lv_at hl 0 rfl) ?_
          refine g_bald hC V 1 rfl (vp_in_nI (by omega) (by omega)) (v := (tx at_)) (congrArg _ (nI_clamp (by omega))) dX2_takeNumber_35 ?_
          refine lv_iadd hx hb dX2_takeNumber_36 ?_
          refine lv_bipush (v := (nI 48)) hx hb dX2_takeNumber_37 (by decide +kernel) ?_
          refine lv_isub hx hb dX2_takeNumber_39 ?_
          refine lv_istore_n (lv' := [(3, .int ((((nI 10) * wv) + (tx at_)) - (nI 48))), (4, .int (nI at_)), (0, .ref t0), (1, .int lo), (2, .int hi)]) hx hb dX2_takeNumber_40 rfl hl (by decide) rfl (fun ls hl => ?_)
          refine lv_iinc (v := (nI (at_ + 1))) (lv' := [(4, .int (nI (at_ + 1))), (3, .int ((((nI 10) * wv) + (tx at_)) - (nI 48))), (0, .ref t0), (1, .int lo), (2, .int hi)]) hx hb dX2_takeNumber_41 hl (k := 1) rfl (nI_1 _) (by decide) rfl (fun ls hl => ?_)
          refine lv_goto (tgt := 8) hx hb dX2_takeNumber_44 (by decide) ?_
          exact ih_8 (at_ + 1) ((((nI 10) * wv) + (tx at_)) - (nI 48)) (by omega) (by omega) (fun h9 => nu_c h_tx h_p h9 (by omega) (by omega) (hwv h9)) (by omega) _ _ _ V (lv_sub hl [0, 1, 2, 3, 4] rfl)
  exact L_1 _ ps.1 (nI 0) (by omega) (by omega) (fun _ => by rw [Nat.sub_self]; rfl) (Nat.lt_succ_self _) _ _ _ V (lv_sub hl [0, 1, 2, 3, 4] rfl)

def q_f_takeOption (T : Nat → ClassId) (si : Nat) (ft : Nat → Int32) (ps : PS) (t0 : Nat) (lo : Int32) (hi : Int32) (wo : Int32) (tf : Int32) (t1 : Nat) (sz : Nat) (tx : Nat → Int32) : Option Value → va_W → Prop := fun rr ww => (∃ (z : Int32) (p2 : PS), rr = some (.int z) ∧ ww = [(t0, .inr (2, [.int tf, .int (nI (cF p2)), .int (cP p2), .ref t1, .int (nI sz), .int (nI (cK p2.2.2.1)), .int (nI p2.1), .int (nI p2.2.1)])), (t1, .inl (T 3, 900, .inl tx))] ∧ p2 = tiS ft sz si lo hi ps ∧ (cF p2 = 0 → z = tiV ft sz si wo ps))
set_option maxHeartbeats 4000000 in
set_option maxRecDepth 100000 in
theorem f_takeOption (l : Launch) (D : va_G) (T : Nat → ClassId) (si : Nat) (ft : Nat → Int32) (ps : PS) (t0 : Nat) (lo : Int32) (hi : Int32) (wo : Int32) (tf : Int32) (t1 : Nat) (sz : Nat) (tx : Nat → Int32) (h_sz : sz ≤ 900) (h_tx : TXT sz tx ft) (h_p : PI ft sz ps) (h_i : si < 8) : Ct l yX2_takeOption cX2_takeOption 5 (some .int) 5 0 0 D T [.ref t0, .ref (D.2 9 si), .int lo, .int hi, .int wo] [(t0, .inr (2, [.int tf, .int (nI (cF ps)), .int (cP ps), .ref t1, .int (nI sz), .int (nI (cK ps.2.2.1)), .int (nI ps.1), .int (nI ps.2.1)])), (t1, .inl (T 3, 900, .inl tx))] (q_f_takeOption T si ft ps t0 lo hi wo tf t1 sz tx) := by
  refine Ct.of (cc := cX2_takeOption) (maxL := 5) (ret := (some .int)) (by decide) (Nat.le_of_ble_eq_true rfl) ?_
  intro p e s m args below meth c A ls hC hnm V hl
  obtain ⟨hx, hb, hr, hml, hown, hts, hlocks⟩ := id hC
  generalize hH : s.heap = H at V ⊢
  clear hH
  have hl : lv_has ls 5 [(0, .ref t0), (1, .ref (D.2 9 si)), (2, .int lo), (3, .int hi), (4, .int wo)] := hl
  generalize hlo : ([] : List Loc) = locs at V ⊢
  clear hlo
  obtain ⟨_, _, _, _, -⟩ := id h_p
  have hcF := cF_le (p := ps) (by omega)
  have hcK := cK_le ps.2.2.1
  refine lv_aload_n hx hb dX2_takeOption_0 rfl (lv_at hl 0 rfl) ?_
  refine g_get hC V (ci := 2) uwX2 0 rfl rfl 1 (by decide) w_130 rfl rfl dX2_takeOption_1 ?_
  refine lv_if_ne (tgt := 15) hx hb dX2_takeOption_4 (by decide) (fun c_1 => ?_) (fun c_1 => ?_)
  · skip
    rw [show (0 : Int32) = nI 0 from rfl] at c_1
    have c_1 := b_ne (by omega) (by omega) c_1
    refine lv_iload hx hb dX2_takeOption_15 (lv_at hl 4 rfl) ?_
    exact g_iret (Qr := (q_f_takeOption T si ft ps t0 lo hi wo tf t1 sz tx)) hC V ⟨(Nat.le_of_ble_eq_true rfl), (Nat.le_of_ble_eq_true rfl)⟩ ⟨wo, ps, rfl, rfl, (ti_n (fun q => c_1 (cF_0.mpr ⟨q.1, by omega⟩))).symm, (fun _ => (tv_n (fun q => c_1 (cF_0.mpr ⟨q.1, by omega⟩))).symm)⟩ dX2_takeOption_17
  · skip
    rw [show (0 : Int32) = nI 0 from rfl] at c_1
    have c_1 := b_eq (by omega) (by omega) c_1
    refine lv_aload_n hx hb dX2_takeOption_7 rfl (lv_at hl 0 rfl) ?_
    refine lv_aload_n hx hb dX2_takeOption_8 rfl (lv_at hl 1 rfl) ?_
    refine g_callV (wr := []) (nA := 1) hC V hl.1 (f_isWord l D T si ft ps t0 tf t1 sz tx (by first | assumption | omega) (by first | assumption | omega) (by first | assumption | omega) (by first | assumption | omega)) w_322 w_324 w_s3 w_4 w_325 (by decide +kernel) rfl ⟨(Nat.le_of_ble_eq_true rfl), (Nat.le_of_ble_eq_true rfl)⟩ 0 (ci := 2) rfl rfl [0, 1] [] rfl rfl rfl rfl (by decide) (Nat.le_of_ble_eq_true rfl) dX2_takeOption_9 ⟨(Nat.le_of_ble_eq_true rfl), (Nat.le_of_ble_eq_true rfl)⟩ rfl (fun r w1 H locs hQ V => ?_)
    rcases hQ with ⟨rfl, rfl, f_2⟩ | ⟨rfl, rfl, f_3⟩
    · have V : gW D T A s [(t0, .inr (2, [.int tf, .int (nI (cF ps)), .int (cP ps), .ref t1, .int (nI sz), .int (nI (cK ps.2.2.1)), .int (nI ps.1), .int (nI ps.2.1)])), (t1, .inl (T 3, 900, .inl tx))] H locs := V
      show W p l e _ s m args below meth c H locs _ _ _ (F0 m 12 ls [.int (nI 1)])
      have hki := f_2
      refine lv_if_ne (tgt := 18) hx hb dX2_takeOption_12 (by decide) (fun _ => ?_) (fun c => absurd (show (nI 1) = 0 from c) (by decide +kernel))
      refine lv_aload_n hx hb dX2_takeOption_18 rfl (lv_at hl 0 rfl) ?_
      refine g_callV (wr := []) (nA := 0) hC V hl.1 (f_nextToken l D T ft ps.2.2.2.1 ps.2.2.2.2.2 t0 tf (cF ps) (cP ps) t1 sz (nI (cK ps.2.2.1)) (nI ps.1) ps.2.1 tx (by first | assumption | omega) (by first | assumption | omega) (by omega) (by omega) (cP_0 (by omega))) w_309 w_311 w_s0 w_4 w_312 (by decide +kernel) rfl ⟨(Nat.le_of_ble_eq_true rfl), (Nat.le_of_ble_eq_true rfl)⟩ 0 (ci := 2) rfl rfl [0, 1] [] rfl rfl rfl rfl (by decide) (Nat.le_of_ble_eq_true rfl) dX2_takeOption_19 ⟨(Nat.le_of_ble_eq_true rfl), (Nat.le_of_ble_eq_true rfl)⟩ rfl (fun r w1 H locs hQ V => ?_)
      obtain ⟨p2_4, rfl, rfl, f_5⟩ := hQ
      have V : gW D T A s [(t0, .inr (2, [.int tf, .int (nI (cF p2_4)), .int (cP p2_4), .ref t1, .int (nI sz), .int (nI (cK p2_4.2.2.1)), .int (nI p2_4.1), .int (nI p2_4.2.1)])), (t1, .inl (T 3, 900, .inl tx))] H locs := V
      show W p l e _ s m args below meth c H locs _ _ _ (F0 m 22 ls [])
      have hPp2_4 : PI ft sz p2_4 := by rw [f_5, nx_c0 (by omega)]; exact PI_nxI h_p
      obtain ⟨_, _, _, _, -⟩ := id hPp2_4
      refine lv_aload_n hx hb dX2_takeOption_22 rfl (lv_at hl 0 rfl) ?_
      refine lv_iload_n hx hb dX2_takeOption_23 rfl (lv_at hl 2 rfl) ?_
      refine lv_iload_n hx hb dX2_takeOption_24 rfl (lv_at hl 3 rfl) ?_
      refine g_callV (wr := []) (nA := 2) hC V hl.1 (f_takeNumber l D T ft p2_4 t0 lo hi tf t1 sz tx (by first | assumption | omega) (by first | assumption | omega) (by first | assumption | omega)) w_378 w_380 w_s5 w_4 w_381 (by decide +kernel) rfl ⟨(Nat.le_of_ble_eq_true rfl), (Nat.le_of_ble_eq_true rfl)⟩ 0 (ci := 2) rfl rfl [0, 1] [] rfl rfl rfl rfl (by decide) (Nat.le_of_ble_eq_true rfl) dX2_takeOption_25 ⟨(Nat.le_of_ble_eq_true rfl), (Nat.le_of_ble_eq_true rfl)⟩ rfl (fun r w1 H locs hQ V => ?_)
      obtain ⟨z_6, p2_7, rfl, rfl, f_8, f_9⟩ := hQ
      have V : gW D T A s [(t0, .inr (2, [.int tf, .int (nI (cF p2_7)), .int (cP p2_7), .ref t1, .int (nI sz), .int (nI (cK p2_7.2.2.1)), .int (nI p2_7.1), .int (nI p2_7.2.1)])), (t1, .inl (T 3, 900, .inl tx))] H locs := V
      show W p l e _ s m args below meth c H locs _ _ _ (F0 m 28 ls [.int z_6])
      exact g_iret (Qr := (q_f_takeOption T si ft ps t0 lo hi wo tf t1 sz tx)) hC V ⟨(Nat.le_of_ble_eq_true rfl), (Nat.le_of_ble_eq_true rfl)⟩ ⟨z_6, p2_7, rfl, rfl, (by rw [ti_y (cF_0.mp (by omega)).1 hki, f_8, f_5, nx_c0 (by omega)]), (fun h => by rw [tv_y (cF_0.mp (by omega)).1 hki, f_9 h, f_5, nx_c0 (by omega)])⟩ dX2_takeOption_28
    · have V : gW D T A s [(t0, .inr (2, [.int tf, .int (nI (cF ps)), .int (cP ps), .ref t1, .int (nI sz), .int (nI (cK ps.2.2.1)), .int (nI ps.1), .int (nI ps.2.1)])), (t1, .inl (T 3, 900, .inl tx))] H locs := V
      show W p l e _ s m args below meth c H locs _ _ _ (F0 m 12 ls [.int (nI 0)])
      refine lv_if_ne (tgt := 18) hx hb dX2_takeOption_12 (by decide) (fun c => absurd (show (nI 0) = 0 by decide +kernel) c) (fun _ => ?_)
      refine lv_iload hx hb dX2_takeOption_15 (lv_at hl 4 rfl) ?_
      exact g_iret (Qr := (q_f_takeOption T si ft ps t0 lo hi wo tf t1 sz tx)) hC V ⟨(Nat.le_of_ble_eq_true rfl), (Nat.le_of_ble_eq_true rfl)⟩ ⟨wo, ps, rfl, rfl, (ti_n (fun q => f_3 q.2)).symm, (fun _ => (tv_n (fun q => f_3 q.2)).symm)⟩ dX2_takeOption_17

def q_f_endLine (T : Nat → ClassId) (ft : Nat → Int32) (ps : PS) (t0 : Nat) (a0 : Nat) (tf : Int32) (t1 : Nat) (sz : Nat) (tx : Nat → Int32) (an : Int32) (am : Int32) (al : Int32) (ao : Int32) (au : Int32) (a1 : Nat) (a2 : Nat) (a3 : Nat) (a4 : Nat) (a5 : Nat) (a6 : Nat) (a7 : Nat) (a8 : Nat) (a9 : Nat) (a10 : Nat) : Option Value → va_W → Prop := fun rr ww => (∃ (p2 : PS) (ll : Int32), rr = none ∧ ww = [(t0, .inr (2, [.int tf, .int (nI (cF p2)), .int (cP p2), .ref t1, .int (nI sz), .int (nI (cK p2.2.2.1)), .int (nI p2.1), .int (nI p2.2.1)])), (t1, .inl (T 3, 900, .inl tx)), (a0, .inr (5, [.int an, .int am, .int ll, .int ao, .int au, .ref a1, .ref a2, .ref a3, .ref a4, .ref a5, .ref a6, .ref a7, .ref a8, .ref a9, .ref a10]))] ∧ p2 = edS ft sz ps ∧ (cF p2 = 0 → ll = al + (nI 1)))
set_option maxHeartbeats 4000000 in
set_option maxRecDepth 100000 in
theorem f_endLine (l : Launch) (D : va_G) (T : Nat → ClassId) (ft : Nat → Int32) (ps : PS) (t0 : Nat) (a0 : Nat) (tf : Int32) (t1 : Nat) (sz : Nat) (tx : Nat → Int32) (an : Int32) (am : Int32) (al : Int32) (ao : Int32) (au : Int32) (a1 : Nat) (a2 : Nat) (a3 : Nat) (a4 : Nat) (a5 : Nat) (a6 : Nat) (a7 : Nat) (a8 : Nat) (a9 : Nat) (a10 : Nat) (h_sz : sz ≤ 900) (h_tx : TXT sz tx ft) (h_p : PI ft sz ps) : Ct l yX2_endLine cX2_endLine 2 none 2 0 0 D T [.ref t0, .ref a0] [(t0, .inr (2, [.int tf, .int (nI (cF ps)), .int (cP ps), .ref t1, .int (nI sz), .int (nI (cK ps.2.2.1)), .int (nI ps.1), .int (nI ps.2.1)])), (t1, .inl (T 3, 900, .inl tx)), (a0, .inr (5, [.int an, .int am, .int al, .int ao, .int au, .ref a1, .ref a2, .ref a3, .ref a4, .ref a5, .ref a6, .ref a7, .ref a8, .ref a9, .ref a10]))] (q_f_endLine T ft ps t0 a0 tf t1 sz tx an am al ao au a1 a2 a3 a4 a5 a6 a7 a8 a9 a10) := by
  refine Ct.of (cc := cX2_endLine) (maxL := 2) (ret := none) (by decide) (Nat.le_of_ble_eq_true rfl) ?_
  intro p e s m args below meth c A ls hC hnm V hl
  obtain ⟨hx, hb, hr, hml, hown, hts, hlocks⟩ := id hC
  generalize hH : s.heap = H at V ⊢
  clear hH
  have hl : lv_has ls 2 [(0, .ref t0), (1, .ref a0)] := hl
  generalize hlo : ([] : List Loc) = locs at V ⊢
  clear hlo
  obtain ⟨_, _, _, _, -⟩ := id h_p
  have hcF := cF_le (p := ps) (by omega)
  have hcK := cK_le ps.2.2.1
  refine lv_aload_n hx hb dX2_endLine_0 rfl (lv_at hl 0 rfl) ?_
  refine g_get hC V (ci := 2) uwX2 0 rfl rfl 5 (by decide) w_136 rfl rfl dX2_endLine_1 ?_
  refine lv_iconst (v := (nI 3)) hx hb dX2_endLine_4 (by decide +kernel) ?_
  refine lv_icmp_eq (tgt := 13) hx hb dX2_endLine_5 (by decide) (fun c_1 => ?_) (fun c_1 => ?_)
  · skip
    have c_1 := b_eq (by omega) (by omega) c_1
    refine lv_aload_n hx hb dX2_endLine_13 rfl (lv_at hl 0 rfl) ?_
    refine g_get hC V (ci := 2) uwX2 0 rfl rfl 1 (by decide) w_130 rfl rfl dX2_endLine_14 ?_
    refine lv_if_ne (tgt := 34) hx hb dX2_endLine_17 (by decide) (fun c_2 => ?_) (fun c_2 => ?_)
    · skip
      rw [show (0 : Int32) = nI 0 from rfl] at c_2
      have c_2 := b_ne (by omega) (by omega) c_2
      exact g_vret (Qr := (q_f_endLine T ft ps t0 a0 tf t1 sz tx an am al ao au a1 a2 a3 a4 a5 a6 a7 a8 a9 a10)) hC V ⟨(Nat.le_of_ble_eq_true rfl), (Nat.le_of_ble_eq_true rfl)⟩ ⟨ps, al, rfl, rfl, (by have h10 := cK_3.mp (by assumption); have hw : ¬ ps.2.2.2.2.1 = 0 := fun q => absurd (cF_0.mpr ⟨q, by omega⟩) (by omega); rw [ed_n (fun q => hw q.1), fa_n0 hw]), (fun h => absurd h (by omega))⟩ dX2_endLine_34
    · skip
      rw [show (0 : Int32) = nI 0 from rfl] at c_2
      have c_2 := b_eq (by omega) (by omega) c_2
      refine lv_aload_n hx hb dX2_endLine_20 rfl (lv_at hl 1 rfl) ?_
      refine lv_dup hx hb dX2_endLine_21 rfl ?_
      refine g_get hC V (ci := 5) uwX5 2 rfl rfl 2 (by decide) w_44 rfl rfl dX2_endLine_22 ?_
      refine lv_iconst (v := (nI 1)) hx hb dX2_endLine_25 (by decide +kernel) ?_
      refine lv_iadd hx hb dX2_endLine_26 ?_
      refine g_put hC V (ci := 5) uwX5 tyX5 tyX5_ok nmX5 2 rfl rfl 2 (by decide) w_44 rfl rfl rfl rfl (Nat.le_of_ble_eq_true rfl) (ws' := [(t0, .inr (2, [.int tf, .int (nI (cF ps)), .int (cP ps), .ref t1, .int (nI sz), .int (nI (cK ps.2.2.1)), .int (nI ps.1), .int (nI ps.2.1)])), (t1, .inl (T 3, 900, .inl tx)), (a0, .inr (5, [.int an, .int am, .int (al + (nI 1)), .int ao, .int au, .ref a1, .ref a2, .ref a3, .ref a4, .ref a5, .ref a6, .ref a7, .ref a8, .ref a9, .ref a10]))]) rfl dX2_endLine_27 (fun H locs V => ?_)
      refine lv_aload_n hx hb dX2_endLine_30 rfl (lv_at hl 0 rfl) ?_
      refine g_callVU (nA := 0) hC V hl.1 (f_nextToken l D T ft ps.2.2.2.1 ps.2.2.2.2.2 t0 tf (cF ps) (cP ps) t1 sz (nI (cK ps.2.2.1)) (nI ps.1) ps.2.1 tx (by first | assumption | omega) (by first | assumption | omega) (by omega) (by omega) (cP_0 (by omega))) w_309 w_311 w_s0 w_4 w_312 (by decide +kernel) rfl ⟨(Nat.le_of_ble_eq_true rfl), (Nat.le_of_ble_eq_true rfl)⟩ 0 (ci := 2) rfl rfl [0, 1] rfl rfl (Nat.le_of_ble_eq_true rfl) dX2_endLine_31 ⟨(Nat.le_of_ble_eq_true rfl), (Nat.le_of_ble_eq_true rfl)⟩ rfl (fun r w1 H locs hQ V => ?_)
      obtain ⟨p2_3, rfl, rfl, f_4⟩ := hQ
      have V : gW D T A s [(t0, .inr (2, [.int tf, .int (nI (cF p2_3)), .int (cP p2_3), .ref t1, .int (nI sz), .int (nI (cK p2_3.2.2.1)), .int (nI p2_3.1), .int (nI p2_3.2.1)])), (t1, .inl (T 3, 900, .inl tx)), (a0, .inr (5, [.int an, .int am, .int (al + (nI 1)), .int ao, .int au, .ref a1, .ref a2, .ref a3, .ref a4, .ref a5, .ref a6, .ref a7, .ref a8, .ref a9, .ref a10]))] H locs := V _ [0, 0] rfl rfl rfl (by decide +kernel) rfl
      show W p l e _ s m args below meth c H locs _ _ _ (F0 m 34 ls [])
      exact g_vret (Qr := (q_f_endLine T ft ps t0 a0 tf t1 sz tx an am al ao au a1 a2 a3 a4 a5 a6 a7 a8 a9 a10)) hC V ⟨(Nat.le_of_ble_eq_true rfl), (Nat.le_of_ble_eq_true rfl)⟩ ⟨p2_3, (al + (nI 1)), rfl, rfl, (f_4.trans ((nx_c0 (by omega)).trans (ed_y (cF_0.mp (by omega)).1 (cK_3.mp (by omega))).symm)), (fun _ => rfl)⟩ dX2_endLine_34
  · skip
    have c_1 := b_ne (by omega) (by omega) c_1
    refine lv_aload_n hx hb dX2_endLine_8 rfl (lv_at hl 0 rfl) ?_
    refine lv_iconst (v := (nI 2)) hx hb dX2_endLine_9 (by decide +kernel) ?_
    refine g_callVU (nA := 1) hC V hl.1 (f_fail l D T ps t0 2 tf t1 sz (by decide) hcF) w_317 w_319 w_s2 w_4 w_320 (by decide +kernel) rfl ⟨(Nat.le_of_ble_eq_true rfl), (Nat.le_of_ble_eq_true rfl)⟩ 0 (ci := 2) rfl rfl [0] rfl rfl (Nat.le_of_ble_eq_true rfl) dX2_endLine_10 ⟨(Nat.le_of_ble_eq_true rfl), (Nat.le_of_ble_eq_true rfl)⟩ rfl (fun r w1 H locs hQ V => ?_)
    obtain ⟨p2_5, rfl, rfl, f_6⟩ := hQ
    have V : gW D T A s [(t0, .inr (2, [.int tf, .int (nI (cF p2_5)), .int (cP p2_5), .ref t1, .int (nI sz), .int (nI (cK p2_5.2.2.1)), .int (nI p2_5.1), .int (nI p2_5.2.1)])), (t1, .inl (T 3, 900, .inl tx)), (a0, .inr (5, [.int an, .int am, .int al, .int ao, .int au, .ref a1, .ref a2, .ref a3, .ref a4, .ref a5, .ref a6, .ref a7, .ref a8, .ref a9, .ref a10]))] H locs := V _ [0] rfl rfl rfl (by decide +kernel) rfl
    show W p l e _ s m args below meth c H locs _ _ _ (F0 m 13 ls [])
    have hwp2_5 : ¬ cF p2_5 = 0 := by rw [f_6]; exact fa_cF (by decide)
    have hPp2_5 : PI ft sz p2_5 := by rw [f_6]; exact PI_fa h_p (by decide)
    obtain ⟨_, _, _, _, -⟩ := id hPp2_5
    have hcp2_5 := cF_le (p := p2_5) (by omega)
    refine lv_aload_n hx hb dX2_endLine_13 rfl (lv_at hl 0 rfl) ?_
    refine g_get hC V (ci := 2) uwX2 0 rfl rfl 1 (by decide) w_130 rfl rfl dX2_endLine_14 ?_
    refine lv_if_ne (tgt := 34) hx hb dX2_endLine_17 (by decide) (fun c_7 => ?_) (fun c_7 => ?_)
    · skip
      rw [show (0 : Int32) = nI 0 from rfl] at c_7
      have c_7 := b_ne (by omega) (by omega) c_7
      exact g_vret (Qr := (q_f_endLine T ft ps t0 a0 tf t1 sz tx an am al ao au a1 a2 a3 a4 a5 a6 a7 a8 a9 a10)) hC V ⟨(Nat.le_of_ble_eq_true rfl), (Nat.le_of_ble_eq_true rfl)⟩ ⟨p2_5, al, rfl, rfl, (f_6.trans (ed_n (fun q => absurd (cK_3.mpr q.2) (by omega))).symm), (fun h => absurd h (by omega))⟩ dX2_endLine_34
    · skip
      rw [show (0 : Int32) = nI 0 from rfl] at c_7
      have c_7 := b_eq (by omega) (by omega) c_7
      exact (by omega : False).elim
