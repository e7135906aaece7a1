theorem fr_smith {n : Nat} {f : Nat → Int32} {x4 x14 x24 x34 x44 x54 : Int32} (h : FR n f) (hn : n < 10) (b4 : bd x4 61) (b14 : bd x14 31) (b24 : bd x24 256) (b54 : bd x54 21) :
    FR (n + 1) (upd (upd (upd (upd (upd (upd (upd f (4 + n) x4) (14 + n) x14) (24 + n) x24) (34 + n) x34) (44 + n) x44) (54 + n) x54) 0 (nI (n + 1))) := by
  refine fr_add h hn up_same ?_ ?_ ?_ ?_ ?_ ?_
  · rw [up_other (by omega), up_other (by omega), up_other (by omega), up_other (by omega), up_other (by omega), up_other (by omega), up_other (by omega)]
  · intro j hj
    rw [up_other (hj 0 (by omega)), up_other (hj (54 + n) (by omega)), up_other (hj (44 + n) (by omega)), up_other (hj (34 + n) (by omega)), up_other (hj (24 + n) (by omega)), up_other (hj (14 + n) (by omega)), up_other (hj (4 + n) (by omega))]
  · rw [up_other (by omega), up_other (by omega), up_other (by omega), up_other (by omega), up_other (by omega), up_other (by omega), up_same]; exact b4
  · rw [up_other (by omega), up_other (by omega), up_other (by omega), up_other (by omega), up_other (by omega), up_same]; exact b14
  · rw [up_other (by omega), up_other (by omega), up_other (by omega), up_other (by omega), up_same]; exact b24
  · rw [up_other (by omega), up_same]; exact b54
