-- ===== PART A: goes FIRST, ahead of the names: the tables' words, and 'selects' of the private methods out of them =====
/-- a private method of a class that the tables say can be made, by its rows of tables_1 -/
def lw_okq (q : MethodName × Nat) : Prop := (q.1.cls ≠ "java/lang/invoke/MethodHandle" ∧ q.1.cls ≠ "java/lang/invoke/VarHandle") ∧ Cond.instantiable q.1.cls q.2 ∈ tables_1 ∧ Cond.privateMethod q.1 ∈ tables_1 ∧ Cond.instanceMethod q.1 ∈ tables_1
theorem lw_t1 {w : Cond} {i : Nat} (h : tables_1_1[i]? = some w) : w ∈ tables_1 := List.mem_append_left _ (List.mem_of_getElem? h)
theorem lw_t2 {w : Cond} {i : Nat} (h : tables_1_2[i]? = some w) : w ∈ tables_1 := List.mem_append_right _ (List.mem_append_left _ (List.mem_of_getElem? h))
theorem lw_t3 {w : Cond} {i : Nat} (h : tables_1_3[i]? = some w) : w ∈ tables_1 := List.mem_append_right _ (List.mem_append_right _ (List.mem_append_left _ (List.mem_of_getElem? h)))
theorem lw_t4 {w : Cond} {i : Nat} (h : tables_1_4[i]? = some w) : w ∈ tables_1 := List.mem_append_right _ (List.mem_append_right _ (List.mem_append_right _ (List.mem_append_left _ (List.mem_of_getElem? h))))
theorem lw_t5 {w : Cond} {i : Nat} (h : tables_1_5[i]? = some w) : w ∈ tables_1 := List.mem_append_right _ (List.mem_append_right _ (List.mem_append_right _ (List.mem_append_right _ (List.mem_append_left _ (List.mem_of_getElem? h)))))
theorem lw_t6 {w : Cond} {i : Nat} (h : tables_1_6[i]? = some w) : w ∈ tables_1 := List.mem_append_right _ (List.mem_append_right _ (List.mem_append_right _ (List.mem_append_right _ (List.mem_append_right _ (List.mem_of_getElem? h)))))
theorem lw_ne0 : "BlownNext$Reader" ≠ "java/lang/invoke/MethodHandle" ∧ "BlownNext$Reader" ≠ "java/lang/invoke/VarHandle" := ⟨by decide +kernel, by decide +kernel⟩
theorem lw_in0 : Cond.instantiable "BlownNext$Reader" 8 ∈ tables_1 := lw_t1 (i := 122) rfl
theorem lw_p0 : lw_okq (⟨"BlownNext$Reader", "nextToken", "()V"⟩, 8) := ⟨lw_ne0, lw_in0, lw_t2 (i := 69) rfl, lw_t2 (i := 70) rfl⟩
theorem lw_p1 : lw_okq (⟨"BlownNext$Reader", "kindAt", "(I)I"⟩, 8) := ⟨lw_ne0, lw_in0, lw_t2 (i := 73) rfl, lw_t2 (i := 74) rfl⟩
theorem lw_p2 : lw_okq (⟨"BlownNext$Reader", "fail", "(I)V"⟩, 8) := ⟨lw_ne0, lw_in0, lw_t2 (i := 77) rfl, lw_t2 (i := 78) rfl⟩
theorem lw_p3 : lw_okq (⟨"BlownNext$Reader", "isWord", "(Ljava/lang/String;)Z"⟩, 8) := ⟨lw_ne0, lw_in0, lw_t2 (i := 82) rfl, lw_t2 (i := 83) rfl⟩
theorem lw_p4 : lw_okq (⟨"BlownNext$Reader", "readSmith", "(LBlownNext$Street;)V"⟩, 8) := ⟨lw_ne0, lw_in0, lw_t2 (i := 134) rfl, lw_t2 (i := 135) rfl⟩
theorem lw_p5 : lw_okq (⟨"BlownNext$Reader", "takeNumber", "(II)I"⟩, 8) := ⟨lw_ne0, lw_in0, lw_t2 (i := 138) rfl, lw_t2 (i := 139) rfl⟩
theorem lw_p6 : lw_okq (⟨"BlownNext$Reader", "takeOption", "(Ljava/lang/String;III)I"⟩, 8) := ⟨lw_ne0, lw_in0, lw_t2 (i := 144) rfl, lw_t2 (i := 145) rfl⟩
theorem lw_p7 : lw_okq (⟨"BlownNext$Reader", "readBlows", "(LBlownNext$Street;)V"⟩, 8) := ⟨lw_ne0, lw_in0, lw_t2 (i := 160) rfl, lw_t2 (i := 161) rfl⟩
theorem lw_p8 : lw_okq (⟨"BlownNext$Reader", "endLine", "(LBlownNext$Street;)V"⟩, 8) := ⟨lw_ne0, lw_in0, lw_t2 (i := 165) rfl, lw_t2 (i := 166) rfl⟩
theorem lw_ne1 : "BlownNext$Street" ≠ "java/lang/invoke/MethodHandle" ∧ "BlownNext$Street" ≠ "java/lang/invoke/VarHandle" := ⟨by decide +kernel, by decide +kernel⟩
theorem lw_in1 : Cond.instantiable "BlownNext$Street" 15 ∈ tables_1 := lw_t1 (i := 27) rfl
theorem lw_p9 : lw_okq (⟨"BlownNext$Street", "weighChanges", "(I)V"⟩, 15) := ⟨lw_ne1, lw_in1, lw_t3 (i := 2) rfl, lw_t3 (i := 3) rfl⟩
theorem lw_p10 : lw_okq (⟨"BlownNext$Street", "burn", "(I)V"⟩, 15) := ⟨lw_ne1, lw_in1, lw_t3 (i := 12) rfl, lw_t3 (i := 13) rfl⟩
theorem lw_ne2 : "BlownNext" ≠ "java/lang/invoke/MethodHandle" ∧ "BlownNext" ≠ "java/lang/invoke/VarHandle" := ⟨by decide +kernel, by decide +kernel⟩
theorem lw_in2 : Cond.instantiable "BlownNext" 10 ∈ tables_1 := lw_t1 (i := 19) rfl
theorem lw_p11 : lw_okq (⟨"BlownNext", "refusedRow", "(I)I"⟩, 10) := ⟨lw_ne2, lw_in2, lw_t3 (i := 44) rfl, lw_t3 (i := 45) rfl⟩
theorem lw_p12 : lw_okq (⟨"BlownNext", "refusedMinutes", "(II)I"⟩, 10) := ⟨lw_ne2, lw_in2, lw_t3 (i := 52) rfl, lw_t3 (i := 53) rfl⟩
theorem lw_p13 : lw_okq (⟨"BlownNext", "doneByCustom", "(IIII)I"⟩, 10) := ⟨lw_ne2, lw_in2, lw_t3 (i := 56) rfl, lw_t3 (i := 57) rfl⟩
theorem lw_p14 : lw_okq (⟨"BlownNext$Street", "bears", "(II)Z"⟩, 15) := ⟨lw_ne1, lw_in1, lw_t3 (i := 68) rfl, lw_t3 (i := 69) rfl⟩
theorem lw_p15 : lw_okq (⟨"BlownNext", "refusedRhythms", "(II)I"⟩, 10) := ⟨lw_ne2, lw_in2, lw_t3 (i := 114) rfl, lw_t3 (i := 115) rfl⟩
def lw_privs_1 : List (MethodName × Nat) := [(⟨"BlownNext$Reader", "nextToken", "()V"⟩, 8), (⟨"BlownNext$Reader", "kindAt", "(I)I"⟩, 8), (⟨"BlownNext$Reader", "fail", "(I)V"⟩, 8), (⟨"BlownNext$Reader", "isWord", "(Ljava/lang/String;)Z"⟩, 8), (⟨"BlownNext$Reader", "readSmith", "(LBlownNext$Street;)V"⟩, 8), (⟨"BlownNext$Reader", "takeNumber", "(II)I"⟩, 8), (⟨"BlownNext$Reader", "takeOption", "(Ljava/lang/String;III)I"⟩, 8), (⟨"BlownNext$Reader", "readBlows", "(LBlownNext$Street;)V"⟩, 8), (⟨"BlownNext$Reader", "endLine", "(LBlownNext$Street;)V"⟩, 8), (⟨"BlownNext$Street", "weighChanges", "(I)V"⟩, 15), (⟨"BlownNext$Street", "burn", "(I)V"⟩, 15), (⟨"BlownNext", "refusedRow", "(I)I"⟩, 10), (⟨"BlownNext", "refusedMinutes", "(II)I"⟩, 10), (⟨"BlownNext", "doneByCustom", "(IIII)I"⟩, 10), (⟨"BlownNext$Street", "bears", "(II)Z"⟩, 15), (⟨"BlownNext", "refusedRhythms", "(II)I"⟩, 10)]
theorem lw_r1 : ∀ q ∈ lw_privs_1, lw_okq q := List.forall_mem_cons.mpr ⟨lw_p0, List.forall_mem_cons.mpr ⟨lw_p1, List.forall_mem_cons.mpr ⟨lw_p2, List.forall_mem_cons.mpr ⟨lw_p3, List.forall_mem_cons.mpr ⟨lw_p4, List.forall_mem_cons.mpr ⟨lw_p5, List.forall_mem_cons.mpr ⟨lw_p6, List.forall_mem_cons.mpr ⟨lw_p7, List.forall_mem_cons.mpr ⟨lw_p8, List.forall_mem_cons.mpr ⟨lw_p9, List.forall_mem_cons.mpr ⟨lw_p10, List.forall_mem_cons.mpr ⟨lw_p11, List.forall_mem_cons.mpr ⟨lw_p12, List.forall_mem_cons.mpr ⟨lw_p13, List.forall_mem_cons.mpr ⟨lw_p14, List.forall_mem_cons.mpr ⟨lw_p15, fun _ h => absurd h List.not_mem_nil⟩⟩⟩⟩⟩⟩⟩⟩⟩⟩⟩⟩⟩⟩⟩⟩
theorem lw_p16 : lw_okq (⟨"BlownNext", "refusedSeen", "(I)I"⟩, 10) := ⟨lw_ne2, lw_in2, lw_t3 (i := 118) rfl, lw_t3 (i := 119) rfl⟩
theorem lw_ne3 : "BlownNext$Rhythms" ≠ "java/lang/invoke/MethodHandle" ∧ "BlownNext$Rhythms" ≠ "java/lang/invoke/VarHandle" := ⟨by decide +kernel, by decide +kernel⟩
theorem lw_in3 : Cond.instantiable "BlownNext$Rhythms" 6 ∈ tables_1 := lw_t1 (i := 177) rfl
theorem lw_p17 : lw_okq (⟨"BlownNext$Rhythms", "everyTime", "()I"⟩, 6) := ⟨lw_ne3, lw_in3, lw_t3 (i := 126) rfl, lw_t3 (i := 127) rfl⟩
theorem lw_p18 : lw_okq (⟨"BlownNext$Rhythms", "breaksBehind", "(LBlownNext$Street;I)I"⟩, 6) := ⟨lw_ne3, lw_in3, lw_t3 (i := 134) rfl, lw_t3 (i := 135) rfl⟩
theorem lw_p19 : lw_okq (⟨"BlownNext$Rhythms", "weighChanges", "(LBlownNext$Street;I)V"⟩, 6) := ⟨lw_ne3, lw_in3, lw_t3 (i := 138) rfl, lw_t3 (i := 139) rfl⟩
theorem lw_p20 : lw_okq (⟨"BlownNext", "waveBreaksBehind", "(II)I"⟩, 10) := ⟨lw_ne2, lw_in2, lw_t3 (i := 157) rfl, lw_t3 (i := 158) rfl⟩
theorem lw_p21 : lw_okq (⟨"BlownNext$Rhythms", "holdAll", "(LBlownNext$Street;)Z"⟩, 6) := ⟨lw_ne3, lw_in3, lw_t3 (i := 186) rfl, lw_t3 (i := 187) rfl⟩
theorem lw_p22 : lw_okq (⟨"BlownNext$Street", "payOf", "(II)I"⟩, 15) := ⟨lw_ne1, lw_in1, lw_t3 (i := 211) rfl, lw_t3 (i := 212) rfl⟩
theorem lw_ne4 : "BlownNext$Search" ≠ "java/lang/invoke/MethodHandle" ∧ "BlownNext$Search" ≠ "java/lang/invoke/VarHandle" := ⟨by decide +kernel, by decide +kernel⟩
theorem lw_in4 : Cond.instantiable "BlownNext$Search" 7 ∈ tables_1 := lw_t3 (i := 227) rfl
theorem lw_p23 : lw_okq (⟨"BlownNext$Search", "weighChanges", "(LBlownNext$Street;)V"⟩, 7) := ⟨lw_ne4, lw_in4, lw_t4 (i := 20) rfl, lw_t4 (i := 21) rfl⟩
theorem lw_p24 : lw_okq (⟨"BlownNext$Search", "meetPresent", "(LBlownNext$Street;)V"⟩, 7) := ⟨lw_ne4, lw_in4, lw_t4 (i := 26) rfl, lw_t4 (i := 27) rfl⟩
theorem lw_p25 : lw_okq (⟨"BlownNext$Search", "meet", "(J)V"⟩, 7) := ⟨lw_ne4, lw_in4, lw_t4 (i := 34) rfl, lw_t4 (i := 35) rfl⟩
theorem lw_p26 : lw_okq (⟨"BlownNext$Search", "endsNext", "(LBlownNext$Street;J)Z"⟩, 7) := ⟨lw_ne4, lw_in4, lw_t4 (i := 39) rfl, lw_t4 (i := 40) rfl⟩
theorem lw_p27 : lw_okq (⟨"BlownNext$Search", "unpack", "(LBlownNext$Street;J)V"⟩, 7) := ⟨lw_ne4, lw_in4, lw_t4 (i := 43) rfl, lw_t4 (i := 44) rfl⟩
theorem lw_p28 : lw_okq (⟨"BlownNext$Search", "canStrike", "(LBlownNext$Street;I)Z"⟩, 7) := ⟨lw_ne4, lw_in4, lw_t4 (i := 47) rfl, lw_t4 (i := 48) rfl⟩
theorem lw_p29 : lw_okq (⟨"BlownNext$Search", "goOnFrom", "(LBlownNext$Street;J)V"⟩, 7) := ⟨lw_ne4, lw_in4, lw_t4 (i := 52) rfl, lw_t4 (i := 53) rfl⟩
theorem lw_p30 : lw_okq (⟨"BlownNext$Search", "behindStrokes", "(LBlownNext$Street;I)J"⟩, 7) := ⟨lw_ne4, lw_in4, lw_t4 (i := 57) rfl, lw_t4 (i := 58) rfl⟩
theorem lw_ne5 : "BlownNext$Layout" ≠ "java/lang/invoke/MethodHandle" ∧ "BlownNext$Layout" ≠ "java/lang/invoke/VarHandle" := ⟨by decide +kernel, by decide +kernel⟩
theorem lw_in5 : Cond.instantiable "BlownNext$Layout" 3 ∈ tables_1 := lw_t1 (i := 205) rfl
theorem lw_p31 : lw_okq (⟨"BlownNext$Layout", "layFrom", "(LBlownNext$Street;III)V"⟩, 3) := ⟨lw_ne5, lw_in5, lw_t4 (i := 84) rfl, lw_t4 (i := 85) rfl⟩
def lw_privs_2 : List (MethodName × Nat) := [(⟨"BlownNext", "refusedSeen", "(I)I"⟩, 10), (⟨"BlownNext$Rhythms", "everyTime", "()I"⟩, 6), (⟨"BlownNext$Rhythms", "breaksBehind", "(LBlownNext$Street;I)I"⟩, 6), (⟨"BlownNext$Rhythms", "weighChanges", "(LBlownNext$Street;I)V"⟩, 6), (⟨"BlownNext", "waveBreaksBehind", "(II)I"⟩, 10), (⟨"BlownNext$Rhythms", "holdAll", "(LBlownNext$Street;)Z"⟩, 6), (⟨"BlownNext$Street", "payOf", "(II)I"⟩, 15), (⟨"BlownNext$Search", "weighChanges", "(LBlownNext$Street;)V"⟩, 7), (⟨"BlownNext$Search", "meetPresent", "(LBlownNext$Street;)V"⟩, 7), (⟨"BlownNext$Search", "meet", "(J)V"⟩, 7), (⟨"BlownNext$Search", "endsNext", "(LBlownNext$Street;J)Z"⟩, 7), (⟨"BlownNext$Search", "unpack", "(LBlownNext$Street;J)V"⟩, 7), (⟨"BlownNext$Search", "canStrike", "(LBlownNext$Street;I)Z"⟩, 7), (⟨"BlownNext$Search", "goOnFrom", "(LBlownNext$Street;J)V"⟩, 7), (⟨"BlownNext$Search", "behindStrokes", "(LBlownNext$Street;I)J"⟩, 7), (⟨"BlownNext$Layout", "layFrom", "(LBlownNext$Street;III)V"⟩, 3)]
theorem lw_r2 : ∀ q ∈ lw_privs_2, lw_okq q := List.forall_mem_cons.mpr ⟨lw_p16, List.forall_mem_cons.mpr ⟨lw_p17, List.forall_mem_cons.mpr ⟨lw_p18, List.forall_mem_cons.mpr ⟨lw_p19, List.forall_mem_cons.mpr ⟨lw_p20, List.forall_mem_cons.mpr ⟨lw_p21, List.forall_mem_cons.mpr ⟨lw_p22, List.forall_mem_cons.mpr ⟨lw_p23, List.forall_mem_cons.mpr ⟨lw_p24, List.forall_mem_cons.mpr ⟨lw_p25, List.forall_mem_cons.mpr ⟨lw_p26, List.forall_mem_cons.mpr ⟨lw_p27, List.forall_mem_cons.mpr ⟨lw_p28, List.forall_mem_cons.mpr ⟨lw_p29, List.forall_mem_cons.mpr ⟨lw_p30, List.forall_mem_cons.mpr ⟨lw_p31, fun _ h => absurd h List.not_mem_nil⟩⟩⟩⟩⟩⟩⟩⟩⟩⟩⟩⟩⟩⟩⟩⟩
theorem lw_p32 : lw_okq (⟨"BlownNext$Layout", "closesTooSoon", "(LBlownNext$Street;II)Z"⟩, 3) := ⟨lw_ne5, lw_in5, lw_t4 (i := 90) rfl, lw_t4 (i := 91) rfl⟩
theorem lw_p33 : lw_okq (⟨"BlownNext", "refusedStranger", "(II)I"⟩, 10) := ⟨lw_ne2, lw_in2, lw_t4 (i := 105) rfl, lw_t4 (i := 106) rfl⟩
theorem lw_p34 : lw_okq (⟨"BlownNext", "doneBySwapped", "(III)I"⟩, 10) := ⟨lw_ne2, lw_in2, lw_t4 (i := 117) rfl, lw_t4 (i := 118) rfl⟩
theorem lw_ne6 : "BlownNext$NumberRow" ≠ "java/lang/invoke/MethodHandle" ∧ "BlownNext$NumberRow" ≠ "java/lang/invoke/VarHandle" := ⟨by decide +kernel, by decide +kernel⟩
theorem lw_in6 : Cond.instantiable "BlownNext$NumberRow" 4 ∈ tables_1 := lw_t1 (i := 222) rfl
theorem lw_p35 : lw_okq (⟨"BlownNext$NumberRow", "cut", "(J)J"⟩, 4) := ⟨lw_ne6, lw_in6, lw_t4 (i := 155) rfl, lw_t4 (i := 156) rfl⟩
theorem lw_ne7 : "BlownNextModel" ≠ "java/lang/invoke/MethodHandle" ∧ "BlownNextModel" ≠ "java/lang/invoke/VarHandle" := ⟨by decide +kernel, by decide +kernel⟩
theorem lw_in7 : Cond.instantiable "BlownNextModel" 34 ∈ tables_1 := lw_t4 (i := 186) rfl
theorem lw_p36 : lw_okq (⟨"BlownNextModel", "next", "()V"⟩, 34) := ⟨lw_ne7, lw_in7, lw_t5 (i := 66) rfl, lw_t5 (i := 67) rfl⟩
theorem lw_p37 : lw_okq (⟨"BlownNextModel", "see", "(I)I"⟩, 34) := ⟨lw_ne7, lw_in7, lw_t5 (i := 70) rfl, lw_t5 (i := 71) rfl⟩
theorem lw_p38 : lw_okq (⟨"BlownNextModel", "keyAt", "()I"⟩, 34) := ⟨lw_ne7, lw_in7, lw_t5 (i := 77) rfl, lw_t5 (i := 78) rfl⟩
theorem lw_p39 : lw_okq (⟨"BlownNextModel", "is", "(I)Z"⟩, 34) := ⟨lw_ne7, lw_in7, lw_t5 (i := 87) rfl, lw_t5 (i := 88) rfl⟩
theorem lw_p40 : lw_okq (⟨"BlownNextModel", "readSmith", "()V"⟩, 34) := ⟨lw_ne7, lw_in7, lw_t5 (i := 91) rfl, lw_t5 (i := 92) rfl⟩
theorem lw_p41 : lw_okq (⟨"BlownNextModel", "fails", "(I)V"⟩, 34) := ⟨lw_ne7, lw_in7, lw_t5 (i := 95) rfl, lw_t5 (i := 96) rfl⟩
theorem lw_p42 : lw_okq (⟨"BlownNextModel", "takes", "(II)I"⟩, 34) := ⟨lw_ne7, lw_in7, lw_t5 (i := 99) rfl, lw_t5 (i := 100) rfl⟩
theorem lw_p43 : lw_okq (⟨"BlownNextModel", "takesIf", "(IIII)I"⟩, 34) := ⟨lw_ne7, lw_in7, lw_t5 (i := 103) rfl, lw_t5 (i := 104) rfl⟩
theorem lw_p44 : lw_okq (⟨"BlownNextModel", "eats", "(I)Z"⟩, 34) := ⟨lw_ne7, lw_in7, lw_t5 (i := 107) rfl, lw_t5 (i := 108) rfl⟩
theorem lw_p45 : lw_okq (⟨"BlownNextModel", "readBlows", "()V"⟩, 34) := ⟨lw_ne7, lw_in7, lw_t5 (i := 111) rfl, lw_t5 (i := 112) rfl⟩
theorem lw_p46 : lw_okq (⟨"BlownNextModel", "isSmith", "(I)Z"⟩, 34) := ⟨lw_ne7, lw_in7, lw_t5 (i := 123) rfl, lw_t5 (i := 124) rfl⟩
theorem lw_p47 : lw_okq (⟨"BlownNextModel", "isDone", "(I)Z"⟩, 34) := ⟨lw_ne7, lw_in7, lw_t5 (i := 128) rfl, lw_t5 (i := 129) rfl⟩
def lw_privs_3 : List (MethodName × Nat) := [(⟨"BlownNext$Layout", "closesTooSoon", "(LBlownNext$Street;II)Z"⟩, 3), (⟨"BlownNext", "refusedStranger", "(II)I"⟩, 10), (⟨"BlownNext", "doneBySwapped", "(III)I"⟩, 10), (⟨"BlownNext$NumberRow", "cut", "(J)J"⟩, 4), (⟨"BlownNextModel", "next", "()V"⟩, 34), (⟨"BlownNextModel", "see", "(I)I"⟩, 34), (⟨"BlownNextModel", "keyAt", "()I"⟩, 34), (⟨"BlownNextModel", "is", "(I)Z"⟩, 34), (⟨"BlownNextModel", "readSmith", "()V"⟩, 34), (⟨"BlownNextModel", "fails", "(I)V"⟩, 34), (⟨"BlownNextModel", "takes", "(II)I"⟩, 34), (⟨"BlownNextModel", "takesIf", "(IIII)I"⟩, 34), (⟨"BlownNextModel", "eats", "(I)Z"⟩, 34), (⟨"BlownNextModel", "readBlows", "()V"⟩, 34), (⟨"BlownNextModel", "isSmith", "(I)Z"⟩, 34), (⟨"BlownNextModel", "isDone", "(I)Z"⟩, 34)]
theorem lw_r3 : ∀ q ∈ lw_privs_3, lw_okq q := List.forall_mem_cons.mpr ⟨lw_p32, List.forall_mem_cons.mpr ⟨lw_p33, List.forall_mem_cons.mpr ⟨lw_p34, List.forall_mem_cons.mpr ⟨lw_p35, List.forall_mem_cons.mpr ⟨lw_p36, List.forall_mem_cons.mpr ⟨lw_p37, List.forall_mem_cons.mpr ⟨lw_p38, List.forall_mem_cons.mpr ⟨lw_p39, List.forall_mem_cons.mpr ⟨lw_p40, List.forall_mem_cons.mpr ⟨lw_p41, List.forall_mem_cons.mpr ⟨lw_p42, List.forall_mem_cons.mpr ⟨lw_p43, List.forall_mem_cons.mpr ⟨lw_p44, List.forall_mem_cons.mpr ⟨lw_p45, List.forall_mem_cons.mpr ⟨lw_p46, List.forall_mem_cons.mpr ⟨lw_p47, fun _ h => absurd h List.not_mem_nil⟩⟩⟩⟩⟩⟩⟩⟩⟩⟩⟩⟩⟩⟩⟩⟩
theorem lw_p48 : lw_okq (⟨"BlownNextModel", "blowersOf", "(I)I"⟩, 34) := ⟨lw_ne7, lw_in7, lw_t5 (i := 136) rfl, lw_t5 (i := 137) rfl⟩
theorem lw_p49 : lw_okq (⟨"BlownNextModel", "isSet", "(J)Z"⟩, 34) := ⟨lw_ne7, lw_in7, lw_t5 (i := 158) rfl, lw_t5 (i := 159) rfl⟩
theorem lw_p50 : lw_okq (⟨"BlownNextModel", "goes", "(IIII)I"⟩, 34) := ⟨lw_ne7, lw_in7, lw_t5 (i := 162) rfl, lw_t5 (i := 163) rfl⟩
theorem lw_p51 : lw_okq (⟨"BlownNextModel", "heatThen", "(III)I"⟩, 34) := ⟨lw_ne7, lw_in7, lw_t5 (i := 166) rfl, lw_t5 (i := 167) rfl⟩
theorem lw_p52 : lw_okq (⟨"BlownNextModel", "isWarm", "(I)Z"⟩, 34) := ⟨lw_ne7, lw_in7, lw_t5 (i := 176) rfl, lw_t5 (i := 177) rfl⟩
theorem lw_p53 : lw_okq (⟨"BlownNextModel", "keeps", "()V"⟩, 34) := ⟨lw_ne7, lw_in7, lw_t5 (i := 186) rfl, lw_t5 (i := 187) rfl⟩
theorem lw_p54 : lw_okq (⟨"BlownNextModel", "minutesOf", "(I)I"⟩, 34) := ⟨lw_ne7, lw_in7, lw_t5 (i := 190) rfl, lw_t5 (i := 191) rfl⟩
theorem lw_p55 : lw_okq (⟨"BlownNextModel", "whyNot", "(II)I"⟩, 34) := ⟨lw_ne7, lw_in7, lw_t5 (i := 194) rfl, lw_t5 (i := 195) rfl⟩
theorem lw_p56 : lw_okq (⟨"BlownNextModel", "doneMany", "()I"⟩, 34) := ⟨lw_ne7, lw_in7, lw_t5 (i := 198) rfl, lw_t5 (i := 199) rfl⟩
theorem lw_p57 : lw_okq (⟨"BlownNextModel", "isAgain", "()V"⟩, 34) := ⟨lw_ne7, lw_in7, lw_t5 (i := 202) rfl, lw_t5 (i := 203) rfl⟩
theorem lw_p58 : lw_okq (⟨"BlownNextModel", "refusesTime", "(I)I"⟩, 34) := ⟨lw_ne7, lw_in7, lw_t5 (i := 214) rfl, lw_t5 (i := 215) rfl⟩
theorem lw_p59 : lw_okq (⟨"BlownNextModel", "doneBy", "(IIII)I"⟩, 34) := ⟨lw_ne7, lw_in7, lw_t5 (i := 219) rfl, lw_t5 (i := 220) rfl⟩
theorem lw_p60 : lw_okq (⟨"BlownNextModel", "lives", "(IIII)I"⟩, 34) := ⟨lw_ne7, lw_in7, lw_t5 (i := 223) rfl, lw_t5 (i := 224) rfl⟩
theorem lw_p61 : lw_okq (⟨"BlownNextModel", "ringOf", "(I)I"⟩, 34) := ⟨lw_ne7, lw_in7, lw_t6 (i := 0) rfl, lw_t6 (i := 1) rfl⟩
theorem lw_p62 : lw_okq (⟨"BlownNextModel", "led", "(II)I"⟩, 34) := ⟨lw_ne7, lw_in7, lw_t6 (i := 4) rfl, lw_t6 (i := 5) rfl⟩
theorem lw_p63 : lw_okq (⟨"BlownNextModel", "takesRhythm", "(II)I"⟩, 34) := ⟨lw_ne7, lw_in7, lw_t6 (i := 24) rfl, lw_t6 (i := 25) rfl⟩
def lw_privs_4 : List (MethodName × Nat) := [(⟨"BlownNextModel", "blowersOf", "(I)I"⟩, 34), (⟨"BlownNextModel", "isSet", "(J)Z"⟩, 34), (⟨"BlownNextModel", "goes", "(IIII)I"⟩, 34), (⟨"BlownNextModel", "heatThen", "(III)I"⟩, 34), (⟨"BlownNextModel", "isWarm", "(I)Z"⟩, 34), (⟨"BlownNextModel", "keeps", "()V"⟩, 34), (⟨"BlownNextModel", "minutesOf", "(I)I"⟩, 34), (⟨"BlownNextModel", "whyNot", "(II)I"⟩, 34), (⟨"BlownNextModel", "doneMany", "()I"⟩, 34), (⟨"BlownNextModel", "isAgain", "()V"⟩, 34), (⟨"BlownNextModel", "refusesTime", "(I)I"⟩, 34), (⟨"BlownNextModel", "doneBy", "(IIII)I"⟩, 34), (⟨"BlownNextModel", "lives", "(IIII)I"⟩, 34), (⟨"BlownNextModel", "ringOf", "(I)I"⟩, 34), (⟨"BlownNextModel", "led", "(II)I"⟩, 34), (⟨"BlownNextModel", "takesRhythm", "(II)I"⟩, 34)]
theorem lw_r4 : ∀ q ∈ lw_privs_4, lw_okq q := List.forall_mem_cons.mpr ⟨lw_p48, List.forall_mem_cons.mpr ⟨lw_p49, List.forall_mem_cons.mpr ⟨lw_p50, List.forall_mem_cons.mpr ⟨lw_p51, List.forall_mem_cons.mpr ⟨lw_p52, List.forall_mem_cons.mpr ⟨lw_p53, List.forall_mem_cons.mpr ⟨lw_p54, List.forall_mem_cons.mpr ⟨lw_p55, List.forall_mem_cons.mpr ⟨lw_p56, List.forall_mem_cons.mpr ⟨lw_p57, List.forall_mem_cons.mpr ⟨lw_p58, List.forall_mem_cons.mpr ⟨lw_p59, List.forall_mem_cons.mpr ⟨lw_p60, List.forall_mem_cons.mpr ⟨lw_p61, List.forall_mem_cons.mpr ⟨lw_p62, List.forall_mem_cons.mpr ⟨lw_p63, fun _ h => absurd h List.not_mem_nil⟩⟩⟩⟩⟩⟩⟩⟩⟩⟩⟩⟩⟩⟩⟩⟩
theorem lw_p64 : lw_okq (⟨"BlownNextModel", "holdsBy", "(I)I"⟩, 34) := ⟨lw_ne7, lw_in7, lw_t6 (i := 29) rfl, lw_t6 (i := 30) rfl⟩
theorem lw_p65 : lw_okq (⟨"BlownNextModel", "pulling", "(I)I"⟩, 34) := ⟨lw_ne7, lw_in7, lw_t6 (i := 33) rfl, lw_t6 (i := 34) rfl⟩
theorem lw_p66 : lw_okq (⟨"BlownNextModel", "waves", "(II)I"⟩, 34) := ⟨lw_ne7, lw_in7, lw_t6 (i := 45) rfl, lw_t6 (i := 46) rfl⟩
theorem lw_p67 : lw_okq (⟨"BlownNextModel", "payOfAll", "(I)I"⟩, 34) := ⟨lw_ne7, lw_in7, lw_t6 (i := 65) rfl, lw_t6 (i := 66) rfl⟩
theorem lw_p68 : lw_okq (⟨"BlownNextModel", "payOf", "(II)I"⟩, 34) := ⟨lw_ne7, lw_in7, lw_t6 (i := 69) rfl, lw_t6 (i := 70) rfl⟩
theorem lw_p69 : lw_okq (⟨"BlownNextModel", "state", "()J"⟩, 34) := ⟨lw_ne7, lw_in7, lw_t6 (i := 81) rfl, lw_t6 (i := 82) rfl⟩
theorem lw_p70 : lw_okq (⟨"BlownNextModel", "meets", "(J)V"⟩, 34) := ⟨lw_ne7, lw_in7, lw_t6 (i := 86) rfl, lw_t6 (i := 87) rfl⟩
theorem lw_p71 : lw_okq (⟨"BlownNextModel", "doesAll", "(J)Z"⟩, 34) := ⟨lw_ne7, lw_in7, lw_t6 (i := 91) rfl, lw_t6 (i := 92) rfl⟩
theorem lw_p72 : lw_okq (⟨"BlownNextModel", "becomes", "(J)V"⟩, 34) := ⟨lw_ne7, lw_in7, lw_t6 (i := 95) rfl, lw_t6 (i := 96) rfl⟩
theorem lw_p73 : lw_okq (⟨"BlownNextModel", "refusesSeen", "(I)I"⟩, 34) := ⟨lw_ne7, lw_in7, lw_t6 (i := 104) rfl, lw_t6 (i := 105) rfl⟩
theorem lw_p74 : lw_okq (⟨"BlownNextModel", "waysSeen", "(I)I"⟩, 34) := ⟨lw_ne7, lw_in7, lw_t6 (i := 108) rfl, lw_t6 (i := 109) rfl⟩
theorem lw_p75 : lw_okq (⟨"BlownNextModel", "lays", "(III)V"⟩, 34) := ⟨lw_ne7, lw_in7, lw_t6 (i := 120) rfl, lw_t6 (i := 121) rfl⟩
theorem lw_p76 : lw_okq (⟨"BlownNextModel", "isOneRing", "()Z"⟩, 34) := ⟨lw_ne7, lw_in7, lw_t6 (i := 124) rfl, lw_t6 (i := 125) rfl⟩
theorem lw_p77 : lw_okq (⟨"BlownNextModel", "offBy", "(II)I"⟩, 34) := ⟨lw_ne7, lw_in7, lw_t6 (i := 128) rfl, lw_t6 (i := 129) rfl⟩
theorem lw_p78 : lw_okq (⟨"BlownNextModel", "refusesStranger", "(II)I"⟩, 34) := ⟨lw_ne7, lw_in7, lw_t6 (i := 140) rfl, lw_t6 (i := 141) rfl⟩
theorem lw_p79 : lw_okq (⟨"BlownNextModel", "brings", "(III)I"⟩, 34) := ⟨lw_ne7, lw_in7, lw_t6 (i := 144) rfl, lw_t6 (i := 145) rfl⟩
def lw_privs_5 : List (MethodName × Nat) := [(⟨"BlownNextModel", "holdsBy", "(I)I"⟩, 34), (⟨"BlownNextModel", "pulling", "(I)I"⟩, 34), (⟨"BlownNextModel", "waves", "(II)I"⟩, 34), (⟨"BlownNextModel", "payOfAll", "(I)I"⟩, 34), (⟨"BlownNextModel", "payOf", "(II)I"⟩, 34), (⟨"BlownNextModel", "state", "()J"⟩, 34), (⟨"BlownNextModel", "meets", "(J)V"⟩, 34), (⟨"BlownNextModel", "doesAll", "(J)Z"⟩, 34), (⟨"BlownNextModel", "becomes", "(J)V"⟩, 34), (⟨"BlownNextModel", "refusesSeen", "(I)I"⟩, 34), (⟨"BlownNextModel", "waysSeen", "(I)I"⟩, 34), (⟨"BlownNextModel", "lays", "(III)V"⟩, 34), (⟨"BlownNextModel", "isOneRing", "()Z"⟩, 34), (⟨"BlownNextModel", "offBy", "(II)I"⟩, 34), (⟨"BlownNextModel", "refusesStranger", "(II)I"⟩, 34), (⟨"BlownNextModel", "brings", "(III)I"⟩, 34)]
theorem lw_r5 : ∀ q ∈ lw_privs_5, lw_okq q := List.forall_mem_cons.mpr ⟨lw_p64, List.forall_mem_cons.mpr ⟨lw_p65, List.forall_mem_cons.mpr ⟨lw_p66, List.forall_mem_cons.mpr ⟨lw_p67, List.forall_mem_cons.mpr ⟨lw_p68, List.forall_mem_cons.mpr ⟨lw_p69, List.forall_mem_cons.mpr ⟨lw_p70, List.forall_mem_cons.mpr ⟨lw_p71, List.forall_mem_cons.mpr ⟨lw_p72, List.forall_mem_cons.mpr ⟨lw_p73, List.forall_mem_cons.mpr ⟨lw_p74, List.forall_mem_cons.mpr ⟨lw_p75, List.forall_mem_cons.mpr ⟨lw_p76, List.forall_mem_cons.mpr ⟨lw_p77, List.forall_mem_cons.mpr ⟨lw_p78, List.forall_mem_cons.mpr ⟨lw_p79, fun _ h => absurd h List.not_mem_nil⟩⟩⟩⟩⟩⟩⟩⟩⟩⟩⟩⟩⟩⟩⟩⟩
theorem lw_p80 : lw_okq (⟨"BlownNextModel", "swaps", "(II)V"⟩, 34) := ⟨lw_ne7, lw_in7, lw_t6 (i := 156) rfl, lw_t6 (i := 157) rfl⟩
theorem lw_p81 : lw_okq (⟨"BlownNextModel", "sumOf", "(I)I"⟩, 34) := ⟨lw_ne7, lw_in7, lw_t6 (i := 203) rfl, lw_t6 (i := 204) rfl⟩
theorem lw_p82 : lw_okq (⟨"BlownNextModel", "warmOnes", "()I"⟩, 34) := ⟨lw_ne7, lw_in7, lw_t6 (i := 207) rfl, lw_t6 (i := 208) rfl⟩
def lw_privs_6 : List (MethodName × Nat) := [(⟨"BlownNextModel", "swaps", "(II)V"⟩, 34), (⟨"BlownNextModel", "sumOf", "(I)I"⟩, 34), (⟨"BlownNextModel", "warmOnes", "()I"⟩, 34)]
theorem lw_r6 : ∀ q ∈ lw_privs_6, lw_okq q := List.forall_mem_cons.mpr ⟨lw_p80, List.forall_mem_cons.mpr ⟨lw_p81, List.forall_mem_cons.mpr ⟨lw_p82, fun _ h => absurd h List.not_mem_nil⟩⟩⟩
def lw_privs : List (MethodName × Nat) := lw_privs_1 ++ (lw_privs_2 ++ (lw_privs_3 ++ (lw_privs_4 ++ (lw_privs_5 ++ (lw_privs_6)))))
def lw_tbl : List Cond := k2_sels lw_privs ++ tables_1
theorem lw_privs_ok : ∀ q ∈ lw_privs, lw_okq q := by
  show ∀ q ∈ lw_privs_1 ++ (lw_privs_2 ++ (lw_privs_3 ++ (lw_privs_4 ++ (lw_privs_5 ++ (lw_privs_6))))), lw_okq q
  exact List.forall_mem_append.mpr ⟨lw_r1, List.forall_mem_append.mpr ⟨lw_r2, List.forall_mem_append.mpr ⟨lw_r3, List.forall_mem_append.mpr ⟨lw_r4, List.forall_mem_append.mpr ⟨lw_r5, lw_r6⟩⟩⟩⟩⟩
