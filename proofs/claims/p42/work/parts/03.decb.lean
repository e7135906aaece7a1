theorem dX6_passOn_87 : decode cX6_passOn 87 = .ok (.goto (-70), 3) := dcTn (j := 16) (v := 70) (f := Instr.goto) sX6_passOn_71 rfl op_167 rfl rfl rfl
theorem dX6_passOn_90 : decode cX6_passOn 90 = .ok (.return_, 1) := dc0 (j := 19) sX6_passOn_71 rfl op_177
theorem sX6_whyNot_0 : sgm cX6_whyNot 0 [43, 180, 0, 30, 28, 47, 66, 42, 33, 184, 0, 40, 153, 0, 5, 4, 172, 28, 4, 96, 43, 180, 0, 21, 161, 0, 5, 6, 172, 43, 180, 0, 30, 28, 4, 96] := by decide +kernel
theorem dX6_whyNot_0 : decode cX6_whyNot 0 = .ok (.aload_n 1, 1) := dc0 (j := 0) sX6_whyNot_0 rfl op_43
theorem dX6_whyNot_1 : decode cX6_whyNot 1 = .ok (.getfield 30, 3) := dcB (j := 1) (f := Instr.getfield) sX6_whyNot_0 rfl op_180 rfl
theorem dX6_whyNot_4 : decode cX6_whyNot 4 = .ok (.iload_n 2, 1) := dc0 (j := 4) sX6_whyNot_0 rfl op_28
theorem dX6_whyNot_5 : decode cX6_whyNot 5 = .ok (.laload, 1) := dc0 (j := 5) sX6_whyNot_0 rfl op_47
theorem dX6_whyNot_6 : decode cX6_whyNot 6 = .ok (.lstore_n 3, 1) := dc0 (j := 6) sX6_whyNot_0 rfl op_66
theorem dX6_whyNot_7 : decode cX6_whyNot 7 = .ok (.aload_n 0, 1) := dc0 (j := 7) sX6_whyNot_0 rfl op_42
theorem dX6_whyNot_8 : decode cX6_whyNot 8 = .ok (.lload_n 3, 1) := dc0 (j := 8) sX6_whyNot_0 rfl op_33
theorem dX6_whyNot_9 : decode cX6_whyNot 9 = .ok (.invokestatic 40, 3) := dcB (j := 9) (f := Instr.invokestatic) sX6_whyNot_0 rfl op_184 rfl
theorem dX6_whyNot_12 : decode cX6_whyNot 12 = .ok (.ifCond .eq 5, 3) := dcTp (j := 12) (v := 5) (f := Instr.ifCond .eq) sX6_whyNot_0 rfl op_153 rfl rfl
theorem dX6_whyNot_15 : decode cX6_whyNot 15 = .ok (.iconst 1, 1) := dc0 (j := 15) sX6_whyNot_0 rfl op_4
theorem dX6_whyNot_16 : decode cX6_whyNot 16 = .ok (.ireturn, 1) := dc0 (j := 16) sX6_whyNot_0 rfl op_172
theorem dX6_whyNot_17 : decode cX6_whyNot 17 = .ok (.iload_n 2, 1) := dc0 (j := 17) sX6_whyNot_0 rfl op_28
theorem dX6_whyNot_18 : decode cX6_whyNot 18 = .ok (.iconst 1, 1) := dc0 (j := 18) sX6_whyNot_0 rfl op_4
theorem dX6_whyNot_19 : decode cX6_whyNot 19 = .ok (.iadd, 1) := dc0 (j := 19) sX6_whyNot_0 rfl op_96
theorem dX6_whyNot_20 : decode cX6_whyNot 20 = .ok (.aload_n 1, 1) := dc0 (j := 20) sX6_whyNot_0 rfl op_43
theorem dX6_whyNot_21 : decode cX6_whyNot 21 = .ok (.getfield 21, 3) := dcB (j := 21) (f := Instr.getfield) sX6_whyNot_0 rfl op_180 rfl
theorem dX6_whyNot_24 : decode cX6_whyNot 24 = .ok (.if_icmp .lt 5, 3) := dcTp (j := 24) (v := 5) (f := Instr.if_icmp .lt) sX6_whyNot_0 rfl op_161 rfl rfl
theorem dX6_whyNot_27 : decode cX6_whyNot 27 = .ok (.iconst 3, 1) := dc0 (j := 27) sX6_whyNot_0 rfl op_6
theorem dX6_whyNot_28 : decode cX6_whyNot 28 = .ok (.ireturn, 1) := dc0 (j := 28) sX6_whyNot_0 rfl op_172
theorem dX6_whyNot_29 : decode cX6_whyNot 29 = .ok (.aload_n 1, 1) := dc0 (j := 29) sX6_whyNot_0 rfl op_43
theorem dX6_whyNot_30 : decode cX6_whyNot 30 = .ok (.getfield 30, 3) := dcB (j := 30) (f := Instr.getfield) sX6_whyNot_0 rfl op_180 rfl
theorem dX6_whyNot_33 : decode cX6_whyNot 33 = .ok (.iload_n 2, 1) := dc0 (j := 33) sX6_whyNot_0 rfl op_28
theorem dX6_whyNot_34 : decode cX6_whyNot 34 = .ok (.iconst 1, 1) := dc0 (j := 34) sX6_whyNot_0 rfl op_4
theorem dX6_whyNot_35 : decode cX6_whyNot 35 = .ok (.iadd, 1) := dc0 (j := 35) sX6_whyNot_0 rfl op_96
theorem sX6_whyNot_36 : sgm cX6_whyNot 36 [47, 55, 5, 42, 22, 5, 184, 0, 40, 153, 0, 5, 4, 172, 33, 22, 5, 127, 9, 148, 153, 0, 5, 5, 172, 42, 180, 0, 44, 17, 39, 15, 161, 0, 7, 7] := by decide +kernel
theorem dX6_whyNot_36 : decode cX6_whyNot 36 = .ok (.laload, 1) := dc0 (j := 0) sX6_whyNot_36 rfl op_47
theorem dX6_whyNot_37 : decode cX6_whyNot 37 = .ok (.lstore 5, 2) := dcA (j := 1) (f := Instr.lstore) sX6_whyNot_36 rfl op_55
theorem dX6_whyNot_39 : decode cX6_whyNot 39 = .ok (.aload_n 0, 1) := dc0 (j := 3) sX6_whyNot_36 rfl op_42
theorem dX6_whyNot_40 : decode cX6_whyNot 40 = .ok (.lload 5, 2) := dcA (j := 4) (f := Instr.lload) sX6_whyNot_36 rfl op_22
theorem dX6_whyNot_42 : decode cX6_whyNot 42 = .ok (.invokestatic 40, 3) := dcB (j := 6) (f := Instr.invokestatic) sX6_whyNot_36 rfl op_184 rfl
theorem dX6_whyNot_45 : decode cX6_whyNot 45 = .ok (.ifCond .eq 5, 3) := dcTp (j := 9) (v := 5) (f := Instr.ifCond .eq) sX6_whyNot_36 rfl op_153 rfl rfl
theorem dX6_whyNot_48 : decode cX6_whyNot 48 = .ok (.iconst 1, 1) := dc0 (j := 12) sX6_whyNot_36 rfl op_4
theorem dX6_whyNot_49 : decode cX6_whyNot 49 = .ok (.ireturn, 1) := dc0 (j := 13) sX6_whyNot_36 rfl op_172
theorem dX6_whyNot_50 : decode cX6_whyNot 50 = .ok (.lload_n 3, 1) := dc0 (j := 14) sX6_whyNot_36 rfl op_33
theorem dX6_whyNot_51 : decode cX6_whyNot 51 = .ok (.lload 5, 2) := dcA (j := 15) (f := Instr.lload) sX6_whyNot_36 rfl op_22
theorem dX6_whyNot_53 : decode cX6_whyNot 53 = .ok (.land, 1) := dc0 (j := 17) sX6_whyNot_36 rfl op_127
theorem dX6_whyNot_54 : decode cX6_whyNot 54 = .ok (.lconst 0, 1) := dc0 (j := 18) sX6_whyNot_36 rfl op_9
theorem dX6_whyNot_55 : decode cX6_whyNot 55 = .ok (.lcmp, 1) := dc0 (j := 19) sX6_whyNot_36 rfl op_148
theorem dX6_whyNot_56 : decode cX6_whyNot 56 = .ok (.ifCond .eq 5, 3) := dcTp (j := 20) (v := 5) (f := Instr.ifCond .eq) sX6_whyNot_36 rfl op_153 rfl rfl
theorem dX6_whyNot_59 : decode cX6_whyNot 59 = .ok (.iconst 2, 1) := dc0 (j := 23) sX6_whyNot_36 rfl op_5
theorem dX6_whyNot_60 : decode cX6_whyNot 60 = .ok (.ireturn, 1) := dc0 (j := 24) sX6_whyNot_36 rfl op_172
theorem dX6_whyNot_61 : decode cX6_whyNot 61 = .ok (.aload_n 0, 1) := dc0 (j := 25) sX6_whyNot_36 rfl op_42
theorem dX6_whyNot_62 : decode cX6_whyNot 62 = .ok (.getfield 44, 3) := dcB (j := 26) (f := Instr.getfield) sX6_whyNot_36 rfl op_180 rfl
theorem dX6_whyNot_65 : decode cX6_whyNot 65 = .ok (.sipush 9999, 3) := dcTp (j := 29) (v := 9999) (f := Instr.sipush) sX6_whyNot_36 rfl op_17 rfl rfl
theorem dX6_whyNot_68 : decode cX6_whyNot 68 = .ok (.if_icmp .lt 7, 3) := dcTp (j := 32) (v := 7) (f := Instr.if_icmp .lt) sX6_whyNot_36 rfl op_161 rfl rfl
theorem dX6_whyNot_71 : decode cX6_whyNot 71 = .ok (.iconst 4, 1) := dc0 (j := 35) sX6_whyNot_36 rfl op_7
theorem sX6_whyNot_72 : sgm cX6_whyNot 72 [167, 0, 4, 3, 172] := by decide +kernel
theorem dX6_whyNot_72 : decode cX6_whyNot 72 = .ok (.goto 4, 3) := dcTp (j := 0) (v := 4) (f := Instr.goto) sX6_whyNot_72 rfl op_167 rfl rfl
theorem dX6_whyNot_75 : decode cX6_whyNot 75 = .ok (.iconst 0, 1) := dc0 (j := 3) sX6_whyNot_72 rfl op_3
theorem dX6_whyNot_76 : decode cX6_whyNot 76 = .ok (.ireturn, 1) := dc0 (j := 4) sX6_whyNot_72 rfl op_172
theorem sX6_isForeign_0 : sgm cX6_isForeign 0 [31, 9, 148, 155, 0, 13, 31, 42, 182, 0, 47, 133, 148, 158, 0, 7, 4, 167, 0, 4, 3, 172] := by decide +kernel
theorem dX6_isForeign_0 : decode cX6_isForeign 0 = .ok (.lload_n 1, 1) := dc0 (j := 0) sX6_isForeign_0 rfl op_31
theorem dX6_isForeign_1 : decode cX6_isForeign 1 = .ok (.lconst 0, 1) := dc0 (j := 1) sX6_isForeign_0 rfl op_9
theorem dX6_isForeign_2 : decode cX6_isForeign 2 = .ok (.lcmp, 1) := dc0 (j := 2) sX6_isForeign_0 rfl op_148
theorem dX6_isForeign_3 : decode cX6_isForeign 3 = .ok (.ifCond .lt 13, 3) := dcTp (j := 3) (v := 13) (f := Instr.ifCond .lt) sX6_isForeign_0 rfl op_155 rfl rfl
theorem dX6_isForeign_6 : decode cX6_isForeign 6 = .ok (.lload_n 1, 1) := dc0 (j := 6) sX6_isForeign_0 rfl op_31
theorem dX6_isForeign_7 : decode cX6_isForeign 7 = .ok (.aload_n 0, 1) := dc0 (j := 7) sX6_isForeign_0 rfl op_42
theorem dX6_isForeign_8 : decode cX6_isForeign 8 = .ok (.invokevirtual 47, 3) := dcB (j := 8) (f := Instr.invokevirtual) sX6_isForeign_0 rfl op_182 rfl
theorem dX6_isForeign_11 : decode cX6_isForeign 11 = .ok (.i2l, 1) := dc0 (j := 11) sX6_isForeign_0 rfl op_133
theorem dX6_isForeign_12 : decode cX6_isForeign 12 = .ok (.lcmp, 1) := dc0 (j := 12) sX6_isForeign_0 rfl op_148
theorem dX6_isForeign_13 : decode cX6_isForeign 13 = .ok (.ifCond .le 7, 3) := dcTp (j := 13) (v := 7) (f := Instr.ifCond .le) sX6_isForeign_0 rfl op_158 rfl rfl
theorem dX6_isForeign_16 : decode cX6_isForeign 16 = .ok (.iconst 1, 1) := dc0 (j := 16) sX6_isForeign_0 rfl op_4
theorem dX6_isForeign_17 : decode cX6_isForeign 17 = .ok (.goto 4, 3) := dcTp (j := 17) (v := 4) (f := Instr.goto) sX6_isForeign_0 rfl op_167 rfl rfl
theorem dX6_isForeign_20 : decode cX6_isForeign 20 = .ok (.iconst 0, 1) := dc0 (j := 20) sX6_isForeign_0 rfl op_3
theorem dX6_isForeign_21 : decode cX6_isForeign 21 = .ok (.ireturn, 1) := dc0 (j := 21) sX6_isForeign_0 rfl op_172
theorem sX7_init_0 : sgm cX7_init 0 [42, 183, 0, 1, 42, 187, 0, 7, 89, 183, 0, 9, 181, 0, 10, 42, 187, 0, 7, 89, 183, 0, 9, 181, 0, 16, 42, 5, 189, 0, 7, 181, 0, 19, 42, 5] := by decide +kernel
theorem dX7_init_0 : decode cX7_init 0 = .ok (.aload_n 0, 1) := dc0 (j := 0) sX7_init_0 rfl op_42
theorem dX7_init_1 : decode cX7_init 1 = .ok (.invokespecial 1, 3) := dcB (j := 1) (f := Instr.invokespecial) sX7_init_0 rfl op_183 rfl
theorem dX7_init_4 : decode cX7_init 4 = .ok (.aload_n 0, 1) := dc0 (j := 4) sX7_init_0 rfl op_42
theorem dX7_init_5 : decode cX7_init 5 = .ok (.new 7, 3) := dcB (j := 5) (f := Instr.new) sX7_init_0 rfl op_187 rfl
theorem dX7_init_8 : decode cX7_init 8 = .ok (.dup, 1) := dc0 (j := 8) sX7_init_0 rfl op_89
theorem dX7_init_9 : decode cX7_init 9 = .ok (.invokespecial 9, 3) := dcB (j := 9) (f := Instr.invokespecial) sX7_init_0 rfl op_183 rfl
theorem dX7_init_12 : decode cX7_init 12 = .ok (.putfield 10, 3) := dcB (j := 12) (f := Instr.putfield) sX7_init_0 rfl op_181 rfl
theorem dX7_init_15 : decode cX7_init 15 = .ok (.aload_n 0, 1) := dc0 (j := 15) sX7_init_0 rfl op_42
theorem dX7_init_16 : decode cX7_init 16 = .ok (.new 7, 3) := dcB (j := 16) (f := Instr.new) sX7_init_0 rfl op_187 rfl
theorem dX7_init_19 : decode cX7_init 19 = .ok (.dup, 1) := dc0 (j := 19) sX7_init_0 rfl op_89
theorem dX7_init_20 : decode cX7_init 20 = .ok (.invokespecial 9, 3) := dcB (j := 20) (f := Instr.invokespecial) sX7_init_0 rfl op_183 rfl
theorem dX7_init_23 : decode cX7_init 23 = .ok (.putfield 16, 3) := dcB (j := 23) (f := Instr.putfield) sX7_init_0 rfl op_181 rfl
theorem dX7_init_26 : decode cX7_init 26 = .ok (.aload_n 0, 1) := dc0 (j := 26) sX7_init_0 rfl op_42
theorem dX7_init_27 : decode cX7_init 27 = .ok (.iconst 2, 1) := dc0 (j := 27) sX7_init_0 rfl op_5
theorem dX7_init_28 : decode cX7_init 28 = .ok (.anewarray 7, 3) := dcB (j := 28) (f := Instr.anewarray) sX7_init_0 rfl op_189 rfl
theorem dX7_init_31 : decode cX7_init 31 = .ok (.putfield 19, 3) := dcB (j := 31) (f := Instr.putfield) sX7_init_0 rfl op_181 rfl
theorem dX7_init_34 : decode cX7_init 34 = .ok (.aload_n 0, 1) := dc0 (j := 34) sX7_init_0 rfl op_42
theorem dX7_init_35 : decode cX7_init 35 = .ok (.iconst 2, 1) := dc0 (j := 35) sX7_init_0 rfl op_5
theorem sX7_init_36 : sgm cX7_init 36 [188, 4, 181, 0, 23, 42, 7, 189, 0, 27, 181, 0, 29, 42, 187, 0, 33, 89, 183, 0, 35, 181, 0, 36, 42, 187, 0, 40, 89, 183, 0, 42, 181, 0, 43, 42] := by decide +kernel
theorem dX7_init_36 : decode cX7_init 36 = .ok (.newarray .boolean, 2) := dcN (j := 0) sX7_init_36 rfl na_4
theorem dX7_init_38 : decode cX7_init 38 = .ok (.putfield 23, 3) := dcB (j := 2) (f := Instr.putfield) sX7_init_36 rfl op_181 rfl
theorem dX7_init_41 : decode cX7_init 41 = .ok (.aload_n 0, 1) := dc0 (j := 5) sX7_init_36 rfl op_42
theorem dX7_init_42 : decode cX7_init 42 = .ok (.iconst 4, 1) := dc0 (j := 6) sX7_init_36 rfl op_7
theorem dX7_init_43 : decode cX7_init 43 = .ok (.anewarray 27, 3) := dcB (j := 7) (f := Instr.anewarray) sX7_init_36 rfl op_189 rfl
theorem dX7_init_46 : decode cX7_init 46 = .ok (.putfield 29, 3) := dcB (j := 10) (f := Instr.putfield) sX7_init_36 rfl op_181 rfl
theorem dX7_init_49 : decode cX7_init 49 = .ok (.aload_n 0, 1) := dc0 (j := 13) sX7_init_36 rfl op_42
theorem dX7_init_50 : decode cX7_init 50 = .ok (.new 33, 3) := dcB (j := 14) (f := Instr.new) sX7_init_36 rfl op_187 rfl
theorem dX7_init_53 : decode cX7_init 53 = .ok (.dup, 1) := dc0 (j := 17) sX7_init_36 rfl op_89
theorem dX7_init_54 : decode cX7_init 54 = .ok (.invokespecial 35, 3) := dcB (j := 18) (f := Instr.invokespecial) sX7_init_36 rfl op_183 rfl
theorem dX7_init_57 : decode cX7_init 57 = .ok (.putfield 36, 3) := dcB (j := 21) (f := Instr.putfield) sX7_init_36 rfl op_181 rfl
theorem dX7_init_60 : decode cX7_init 60 = .ok (.aload_n 0, 1) := dc0 (j := 24) sX7_init_36 rfl op_42
theorem dX7_init_61 : decode cX7_init 61 = .ok (.new 40, 3) := dcB (j := 25) (f := Instr.new) sX7_init_36 rfl op_187 rfl
theorem dX7_init_64 : decode cX7_init 64 = .ok (.dup, 1) := dc0 (j := 28) sX7_init_36 rfl op_89
theorem dX7_init_65 : decode cX7_init 65 = .ok (.invokespecial 42, 3) := dcB (j := 29) (f := Instr.invokespecial) sX7_init_36 rfl op_183 rfl
theorem dX7_init_68 : decode cX7_init 68 = .ok (.putfield 43, 3) := dcB (j := 32) (f := Instr.putfield) sX7_init_36 rfl op_181 rfl
theorem dX7_init_71 : decode cX7_init 71 = .ok (.aload_n 0, 1) := dc0 (j := 35) sX7_init_36 rfl op_42
theorem sX7_init_72 : sgm cX7_init 72 [187, 0, 47, 89, 183, 0, 49, 181, 0, 50, 42, 187, 0, 54, 89, 183, 0, 56, 181, 0, 57, 3, 60, 27, 5, 162, 0, 22, 42, 180, 0, 19, 27, 187, 0, 7] := by decide +kernel
theorem dX7_init_72 : decode cX7_init 72 = .ok (.new 47, 3) := dcB (j := 0) (f := Instr.new) sX7_init_72 rfl op_187 rfl
theorem dX7_init_75 : decode cX7_init 75 = .ok (.dup, 1) := dc0 (j := 3) sX7_init_72 rfl op_89
theorem dX7_init_76 : decode cX7_init 76 = .ok (.invokespecial 49, 3) := dcB (j := 4) (f := Instr.invokespecial) sX7_init_72 rfl op_183 rfl
theorem dX7_init_79 : decode cX7_init 79 = .ok (.putfield 50, 3) := dcB (j := 7) (f := Instr.putfield) sX7_init_72 rfl op_181 rfl
theorem dX7_init_82 : decode cX7_init 82 = .ok (.aload_n 0, 1) := dc0 (j := 10) sX7_init_72 rfl op_42
theorem dX7_init_83 : decode cX7_init 83 = .ok (.new 54, 3) := dcB (j := 11) (f := Instr.new) sX7_init_72 rfl op_187 rfl
theorem dX7_init_86 : decode cX7_init 86 = .ok (.dup, 1) := dc0 (j := 14) sX7_init_72 rfl op_89
theorem dX7_init_87 : decode cX7_init 87 = .ok (.invokespecial 56, 3) := dcB (j := 15) (f := Instr.invokespecial) sX7_init_72 rfl op_183 rfl
theorem dX7_init_90 : decode cX7_init 90 = .ok (.putfield 57, 3) := dcB (j := 18) (f := Instr.putfield) sX7_init_72 rfl op_181 rfl
theorem dX7_init_93 : decode cX7_init 93 = .ok (.iconst 0, 1) := dc0 (j := 21) sX7_init_72 rfl op_3
theorem dX7_init_94 : decode cX7_init 94 = .ok (.istore_n 1, 1) := dc0 (j := 22) sX7_init_72 rfl op_60
theorem dX7_init_95 : decode cX7_init 95 = .ok (.iload_n 1, 1) := dc0 (j := 23) sX7_init_72 rfl op_27
theorem dX7_init_96 : decode cX7_init 96 = .ok (.iconst 2, 1) := dc0 (j := 24) sX7_init_72 rfl op_5
theorem dX7_init_97 : decode cX7_init 97 = .ok (.if_icmp .ge 22, 3) := dcTp (j := 25) (v := 22) (f := Instr.if_icmp .ge) sX7_init_72 rfl op_162 rfl rfl
theorem dX7_init_100 : decode cX7_init 100 = .ok (.aload_n 0, 1) := dc0 (j := 28) sX7_init_72 rfl op_42
theorem dX7_init_101 : decode cX7_init 101 = .ok (.getfield 19, 3) := dcB (j := 29) (f := Instr.getfield) sX7_init_72 rfl op_180 rfl
theorem dX7_init_104 : decode cX7_init 104 = .ok (.iload_n 1, 1) := dc0 (j := 32) sX7_init_72 rfl op_27
theorem dX7_init_105 : decode cX7_init 105 = .ok (.new 7, 3) := dcB (j := 33) (f := Instr.new) sX7_init_72 rfl op_187 rfl
theorem sX7_init_108 : sgm cX7_init 108 [89, 183, 0, 9, 83, 132, 1, 1, 167, 255, 235, 3, 60, 27, 7, 162, 0, 22, 42, 180, 0, 29, 27, 187, 0, 27, 89, 183, 0, 61, 83, 132, 1, 1] := by decide +kernel
theorem dX7_init_108 : decode cX7_init 108 = .ok (.dup, 1) := dc0 (j := 0) sX7_init_108 rfl op_89
theorem dX7_init_109 : decode cX7_init 109 = .ok (.invokespecial 9, 3) := dcB (j := 1) (f := Instr.invokespecial) sX7_init_108 rfl op_183 rfl
theorem dX7_init_112 : decode cX7_init 112 = .ok (.aastore, 1) := dc0 (j := 4) sX7_init_108 rfl op_83
theorem dX7_init_113 : decode cX7_init 113 = .ok (.iinc 1 1, 3) := dcIp (j := 5) sX7_init_108 rfl op_132 rfl
theorem dX7_init_116 : decode cX7_init 116 = .ok (.goto (-21), 3) := dcTn (j := 8) (v := 21) (f := Instr.goto) sX7_init_108 rfl op_167 rfl rfl rfl
theorem dX7_init_119 : decode cX7_init 119 = .ok (.iconst 0, 1) := dc0 (j := 11) sX7_init_108 rfl op_3
theorem dX7_init_120 : decode cX7_init 120 = .ok (.istore_n 1, 1) := dc0 (j := 12) sX7_init_108 rfl op_60
theorem dX7_init_121 : decode cX7_init 121 = .ok (.iload_n 1, 1) := dc0 (j := 13) sX7_init_108 rfl op_27
theorem dX7_init_122 : decode cX7_init 122 = .ok (.iconst 4, 1) := dc0 (j := 14) sX7_init_108 rfl op_7
theorem dX7_init_123 : decode cX7_init 123 = .ok (.if_icmp .ge 22, 3) := dcTp (j := 15) (v := 22) (f := Instr.if_icmp .ge) sX7_init_108 rfl op_162 rfl rfl
theorem dX7_init_126 : decode cX7_init 126 = .ok (.aload_n 0, 1) := dc0 (j := 18) sX7_init_108 rfl op_42
theorem dX7_init_127 : decode cX7_init 127 = .ok (.getfield 29, 3) := dcB (j := 19) (f := Instr.getfield) sX7_init_108 rfl op_180 rfl
theorem dX7_init_130 : decode cX7_init 130 = .ok (.iload_n 1, 1) := dc0 (j := 22) sX7_init_108 rfl op_27
theorem dX7_init_131 : decode cX7_init 131 = .ok (.new 27, 3) := dcB (j := 23) (f := Instr.new) sX7_init_108 rfl op_187 rfl
theorem dX7_init_134 : decode cX7_init 134 = .ok (.dup, 1) := dc0 (j := 26) sX7_init_108 rfl op_89
theorem dX7_init_135 : decode cX7_init 135 = .ok (.invokespecial 61, 3) := dcB (j := 27) (f := Instr.invokespecial) sX7_init_108 rfl op_183 rfl
theorem dX7_init_138 : decode cX7_init 138 = .ok (.aastore, 1) := dc0 (j := 30) sX7_init_108 rfl op_83
theorem dX7_init_139 : decode cX7_init 139 = .ok (.iinc 1 1, 3) := dcIp (j := 31) sX7_init_108 rfl op_132 rfl
theorem sX7_init_142 : sgm cX7_init 142 [167, 255, 235, 177] := by decide +kernel
theorem dX7_init_142 : decode cX7_init 142 = .ok (.goto (-21), 3) := dcTn (j := 0) (v := 21) (f := Instr.goto) sX7_init_142 rfl op_167 rfl rfl rfl
theorem dX7_init_145 : decode cX7_init 145 = .ok (.return_, 1) := dc0 (j := 3) sX7_init_142 rfl op_177
theorem sX7_feed_0 : sgm cX7_feed 0 [42, 180, 0, 36, 180, 0, 62, 16, 20, 96, 17, 3, 132, 164, 0, 6, 16, 251, 172, 42, 180, 0, 36, 27, 182, 0, 66, 42, 180, 0, 36, 28, 182, 0, 66, 42] := by decide +kernel
theorem dX7_feed_0 : decode cX7_feed 0 = .ok (.aload_n 0, 1) := dc0 (j := 0) sX7_feed_0 rfl op_42
theorem dX7_feed_1 : decode cX7_feed 1 = .ok (.getfield 36, 3) := dcB (j := 1) (f := Instr.getfield) sX7_feed_0 rfl op_180 rfl
theorem dX7_feed_4 : decode cX7_feed 4 = .ok (.getfield 62, 3) := dcB (j := 4) (f := Instr.getfield) sX7_feed_0 rfl op_180 rfl
theorem dX7_feed_7 : decode cX7_feed 7 = .ok (.bipush 20, 2) := dcSp (j := 7) (a := 20) (f := Instr.bipush) sX7_feed_0 rfl op_16 rfl
theorem dX7_feed_9 : decode cX7_feed 9 = .ok (.iadd, 1) := dc0 (j := 9) sX7_feed_0 rfl op_96
theorem dX7_feed_10 : decode cX7_feed 10 = .ok (.sipush 900, 3) := dcTp (j := 10) (v := 900) (f := Instr.sipush) sX7_feed_0 rfl op_17 rfl rfl
theorem dX7_feed_13 : decode cX7_feed 13 = .ok (.if_icmp .le 6, 3) := dcTp (j := 13) (v := 6) (f := Instr.if_icmp .le) sX7_feed_0 rfl op_164 rfl rfl
theorem dX7_feed_16 : decode cX7_feed 16 = .ok (.bipush (-5), 2) := dcSn (j := 16) (v := 5) (f := Instr.bipush) sX7_feed_0 rfl op_16 rfl rfl rfl
theorem dX7_feed_18 : decode cX7_feed 18 = .ok (.ireturn, 1) := dc0 (j := 18) sX7_feed_0 rfl op_172
theorem dX7_feed_19 : decode cX7_feed 19 = .ok (.aload_n 0, 1) := dc0 (j := 19) sX7_feed_0 rfl op_42
theorem dX7_feed_20 : decode cX7_feed 20 = .ok (.getfield 36, 3) := dcB (j := 20) (f := Instr.getfield) sX7_feed_0 rfl op_180 rfl
theorem dX7_feed_23 : decode cX7_feed 23 = .ok (.iload_n 1, 1) := dc0 (j := 23) sX7_feed_0 rfl op_27
theorem dX7_feed_24 : decode cX7_feed 24 = .ok (.invokevirtual 66, 3) := dcB (j := 24) (f := Instr.invokevirtual) sX7_feed_0 rfl op_182 rfl
theorem dX7_feed_27 : decode cX7_feed 27 = .ok (.aload_n 0, 1) := dc0 (j := 27) sX7_feed_0 rfl op_42
theorem dX7_feed_28 : decode cX7_feed 28 = .ok (.getfield 36, 3) := dcB (j := 28) (f := Instr.getfield) sX7_feed_0 rfl op_180 rfl
theorem dX7_feed_31 : decode cX7_feed 31 = .ok (.iload_n 2, 1) := dc0 (j := 31) sX7_feed_0 rfl op_28
theorem dX7_feed_32 : decode cX7_feed 32 = .ok (.invokevirtual 66, 3) := dcB (j := 32) (f := Instr.invokevirtual) sX7_feed_0 rfl op_182 rfl
theorem dX7_feed_35 : decode cX7_feed 35 = .ok (.aload_n 0, 1) := dc0 (j := 35) sX7_feed_0 rfl op_42
theorem sX7_feed_36 : sgm cX7_feed 36 [180, 0, 36, 29, 182, 0, 66, 42, 180, 0, 36, 21, 4, 182, 0, 66, 42, 180, 0, 36, 21, 5, 182, 0, 66, 42, 180, 0, 36, 180, 0, 62, 172] := by decide +kernel
theorem dX7_feed_36 : decode cX7_feed 36 = .ok (.getfield 36, 3) := dcB (j := 0) (f := Instr.getfield) sX7_feed_36 rfl op_180 rfl
theorem dX7_feed_39 : decode cX7_feed 39 = .ok (.iload_n 3, 1) := dc0 (j := 3) sX7_feed_36 rfl op_29
theorem dX7_feed_40 : decode cX7_feed 40 = .ok (.invokevirtual 66, 3) := dcB (j := 4) (f := Instr.invokevirtual) sX7_feed_36 rfl op_182 rfl
theorem dX7_feed_43 : decode cX7_feed 43 = .ok (.aload_n 0, 1) := dc0 (j := 7) sX7_feed_36 rfl op_42
theorem dX7_feed_44 : decode cX7_feed 44 = .ok (.getfield 36, 3) := dcB (j := 8) (f := Instr.getfield) sX7_feed_36 rfl op_180 rfl
theorem dX7_feed_47 : decode cX7_feed 47 = .ok (.iload 4, 2) := dcA (j := 11) (f := Instr.iload) sX7_feed_36 rfl op_21
theorem dX7_feed_49 : decode cX7_feed 49 = .ok (.invokevirtual 66, 3) := dcB (j := 13) (f := Instr.invokevirtual) sX7_feed_36 rfl op_182 rfl
theorem dX7_feed_52 : decode cX7_feed 52 = .ok (.aload_n 0, 1) := dc0 (j := 16) sX7_feed_36 rfl op_42
theorem dX7_feed_53 : decode cX7_feed 53 = .ok (.getfield 36, 3) := dcB (j := 17) (f := Instr.getfield) sX7_feed_36 rfl op_180 rfl
theorem dX7_feed_56 : decode cX7_feed 56 = .ok (.iload 5, 2) := dcA (j := 20) (f := Instr.iload) sX7_feed_36 rfl op_21
theorem dX7_feed_58 : decode cX7_feed 58 = .ok (.invokevirtual 66, 3) := dcB (j := 22) (f := Instr.invokevirtual) sX7_feed_36 rfl op_182 rfl
theorem dX7_feed_61 : decode cX7_feed 61 = .ok (.aload_n 0, 1) := dc0 (j := 25) sX7_feed_36 rfl op_42
theorem dX7_feed_62 : decode cX7_feed 62 = .ok (.getfield 36, 3) := dcB (j := 26) (f := Instr.getfield) sX7_feed_36 rfl op_180 rfl
theorem dX7_feed_65 : decode cX7_feed 65 = .ok (.getfield 62, 3) := dcB (j := 29) (f := Instr.getfield) sX7_feed_36 rfl op_180 rfl
theorem dX7_feed_68 : decode cX7_feed 68 = .ok (.ireturn, 1) := dc0 (j := 32) sX7_feed_36 rfl op_172
theorem sX7_street_0 : sgm cX7_street 0 [27, 3, 42, 180, 0, 36, 180, 0, 62, 184, 0, 70, 154, 0, 6, 16, 253, 172, 42, 180, 0, 36, 27, 42, 180, 0, 16, 182, 0, 74, 42, 180, 0, 36] := by decide +kernel
theorem dX7_street_0 : decode cX7_street 0 = .ok (.iload_n 1, 1) := dc0 (j := 0) sX7_street_0 rfl op_27
theorem dX7_street_1 : decode cX7_street 1 = .ok (.iconst 0, 1) := dc0 (j := 1) sX7_street_0 rfl op_3
theorem dX7_street_2 : decode cX7_street 2 = .ok (.aload_n 0, 1) := dc0 (j := 2) sX7_street_0 rfl op_42
theorem dX7_street_3 : decode cX7_street 3 = .ok (.getfield 36, 3) := dcB (j := 3) (f := Instr.getfield) sX7_street_0 rfl op_180 rfl
theorem dX7_street_6 : decode cX7_street 6 = .ok (.getfield 62, 3) := dcB (j := 6) (f := Instr.getfield) sX7_street_0 rfl op_180 rfl
theorem dX7_street_9 : decode cX7_street 9 = .ok (.invokestatic 70, 3) := dcB (j := 9) (f := Instr.invokestatic) sX7_street_0 rfl op_184 rfl
theorem dX7_street_12 : decode cX7_street 12 = .ok (.ifCond .ne 6, 3) := dcTp (j := 12) (v := 6) (f := Instr.ifCond .ne) sX7_street_0 rfl op_154 rfl rfl
theorem dX7_street_15 : decode cX7_street 15 = .ok (.bipush (-3), 2) := dcSn (j := 15) (v := 3) (f := Instr.bipush) sX7_street_0 rfl op_16 rfl rfl rfl
theorem dX7_street_17 : decode cX7_street 17 = .ok (.ireturn, 1) := dc0 (j := 17) sX7_street_0 rfl op_172
theorem dX7_street_18 : decode cX7_street 18 = .ok (.aload_n 0, 1) := dc0 (j := 18) sX7_street_0 rfl op_42
theorem dX7_street_19 : decode cX7_street 19 = .ok (.getfield 36, 3) := dcB (j := 19) (f := Instr.getfield) sX7_street_0 rfl op_180 rfl
theorem dX7_street_22 : decode cX7_street 22 = .ok (.iload_n 1, 1) := dc0 (j := 22) sX7_street_0 rfl op_27
theorem dX7_street_23 : decode cX7_street 23 = .ok (.aload_n 0, 1) := dc0 (j := 23) sX7_street_0 rfl op_42
theorem dX7_street_24 : decode cX7_street 24 = .ok (.getfield 16, 3) := dcB (j := 24) (f := Instr.getfield) sX7_street_0 rfl op_180 rfl
theorem dX7_street_27 : decode cX7_street 27 = .ok (.invokevirtual 74, 3) := dcB (j := 27) (f := Instr.invokevirtual) sX7_street_0 rfl op_182 rfl
theorem dX7_street_30 : decode cX7_street 30 = .ok (.aload_n 0, 1) := dc0 (j := 30) sX7_street_0 rfl op_42
theorem dX7_street_31 : decode cX7_street 31 = .ok (.getfield 36, 3) := dcB (j := 31) (f := Instr.getfield) sX7_street_0 rfl op_180 rfl
theorem sX7_street_34 : sgm cX7_street 34 [180, 0, 78, 153, 0, 14, 16, 226, 42, 180, 0, 36, 180, 0, 78, 100, 172, 42, 180, 0, 10, 42, 180, 0, 16, 182, 0, 81, 42, 180, 0, 10, 180, 0, 85, 172] := by decide +kernel
theorem dX7_street_34 : decode cX7_street 34 = .ok (.getfield 78, 3) := dcB (j := 0) (f := Instr.getfield) sX7_street_34 rfl op_180 rfl
theorem dX7_street_37 : decode cX7_street 37 = .ok (.ifCond .eq 14, 3) := dcTp (j := 3) (v := 14) (f := Instr.ifCond .eq) sX7_street_34 rfl op_153 rfl rfl
theorem dX7_street_40 : decode cX7_street 40 = .ok (.bipush (-30), 2) := dcSn (j := 6) (v := 30) (f := Instr.bipush) sX7_street_34 rfl op_16 rfl rfl rfl
theorem dX7_street_42 : decode cX7_street 42 = .ok (.aload_n 0, 1) := dc0 (j := 8) sX7_street_34 rfl op_42
theorem dX7_street_43 : decode cX7_street 43 = .ok (.getfield 36, 3) := dcB (j := 9) (f := Instr.getfield) sX7_street_34 rfl op_180 rfl
theorem dX7_street_46 : decode cX7_street 46 = .ok (.getfield 78, 3) := dcB (j := 12) (f := Instr.getfield) sX7_street_34 rfl op_180 rfl
theorem dX7_street_49 : decode cX7_street 49 = .ok (.isub, 1) := dc0 (j := 15) sX7_street_34 rfl op_100
theorem dX7_street_50 : decode cX7_street 50 = .ok (.ireturn, 1) := dc0 (j := 16) sX7_street_34 rfl op_172
theorem dX7_street_51 : decode cX7_street 51 = .ok (.aload_n 0, 1) := dc0 (j := 17) sX7_street_34 rfl op_42
theorem dX7_street_52 : decode cX7_street 52 = .ok (.getfield 10, 3) := dcB (j := 18) (f := Instr.getfield) sX7_street_34 rfl op_180 rfl
theorem dX7_street_55 : decode cX7_street 55 = .ok (.aload_n 0, 1) := dc0 (j := 21) sX7_street_34 rfl op_42
theorem dX7_street_56 : decode cX7_street 56 = .ok (.getfield 16, 3) := dcB (j := 22) (f := Instr.getfield) sX7_street_34 rfl op_180 rfl
theorem dX7_street_59 : decode cX7_street 59 = .ok (.invokevirtual 81, 3) := dcB (j := 25) (f := Instr.invokevirtual) sX7_street_34 rfl op_182 rfl
theorem dX7_street_62 : decode cX7_street 62 = .ok (.aload_n 0, 1) := dc0 (j := 28) sX7_street_34 rfl op_42
theorem dX7_street_63 : decode cX7_street 63 = .ok (.getfield 10, 3) := dcB (j := 29) (f := Instr.getfield) sX7_street_34 rfl op_180 rfl
theorem dX7_street_66 : decode cX7_street 66 = .ok (.getfield 85, 3) := dcB (j := 32) (f := Instr.getfield) sX7_street_34 rfl op_180 rfl
theorem dX7_street_69 : decode cX7_street 69 = .ok (.ireturn, 1) := dc0 (j := 35) sX7_street_34 rfl op_172
theorem sX7_fault_0 : sgm cX7_fault 0 [27] := by decide +kernel
theorem dX7_fault_0 : decode cX7_fault 0 = .ok (.iload_n 1, 1) := dc0 (j := 0) sX7_fault_0 rfl op_27
theorem dX7_fault_1 : decode cX7_fault 1 = .ok (.lookupswitch 43 #[(0, 27), (1, 35)], 27) := by decide +kernel
theorem sX7_fault_28 : sgm cX7_fault 28 [42, 180, 0, 36, 180, 0, 78, 172, 42, 180, 0, 36, 180, 0, 88, 172, 2, 172] := by decide +kernel
theorem dX7_fault_28 : decode cX7_fault 28 = .ok (.aload_n 0, 1) := dc0 (j := 0) sX7_fault_28 rfl op_42
theorem dX7_fault_29 : decode cX7_fault 29 = .ok (.getfield 36, 3) := dcB (j := 1) (f := Instr.getfield) sX7_fault_28 rfl op_180 rfl
theorem dX7_fault_32 : decode cX7_fault 32 = .ok (.getfield 78, 3) := dcB (j := 4) (f := Instr.getfield) sX7_fault_28 rfl op_180 rfl
theorem dX7_fault_35 : decode cX7_fault 35 = .ok (.ireturn, 1) := dc0 (j := 7) sX7_fault_28 rfl op_172
theorem dX7_fault_36 : decode cX7_fault 36 = .ok (.aload_n 0, 1) := dc0 (j := 8) sX7_fault_28 rfl op_42
theorem dX7_fault_37 : decode cX7_fault 37 = .ok (.getfield 36, 3) := dcB (j := 9) (f := Instr.getfield) sX7_fault_28 rfl op_180 rfl
theorem dX7_fault_40 : decode cX7_fault 40 = .ok (.getfield 88, 3) := dcB (j := 12) (f := Instr.getfield) sX7_fault_28 rfl op_180 rfl
theorem dX7_fault_43 : decode cX7_fault 43 = .ok (.ireturn, 1) := dc0 (j := 15) sX7_fault_28 rfl op_172
theorem dX7_fault_44 : decode cX7_fault 44 = .ok (.iconst (-1), 1) := dc0 (j := 16) sX7_fault_28 rfl op_2
theorem dX7_fault_45 : decode cX7_fault 45 = .ok (.ireturn, 1) := dc0 (j := 17) sX7_fault_28 rfl op_172
theorem sX7_smith_0 : sgm cX7_smith 0 [42, 180, 0, 10, 27, 182, 0, 91, 154, 0, 6, 16, 254, 172, 28] := by decide +kernel
theorem dX7_smith_0 : decode cX7_smith 0 = .ok (.aload_n 0, 1) := dc0 (j := 0) sX7_smith_0 rfl op_42
theorem dX7_smith_1 : decode cX7_smith 1 = .ok (.getfield 10, 3) := dcB (j := 1) (f := Instr.getfield) sX7_smith_0 rfl op_180 rfl
theorem dX7_smith_4 : decode cX7_smith 4 = .ok (.iload_n 1, 1) := dc0 (j := 4) sX7_smith_0 rfl op_27
theorem dX7_smith_5 : decode cX7_smith 5 = .ok (.invokevirtual 91, 3) := dcB (j := 5) (f := Instr.invokevirtual) sX7_smith_0 rfl op_182 rfl
theorem dX7_smith_8 : decode cX7_smith 8 = .ok (.ifCond .ne 6, 3) := dcTp (j := 8) (v := 6) (f := Instr.ifCond .ne) sX7_smith_0 rfl op_154 rfl rfl
theorem dX7_smith_11 : decode cX7_smith 11 = .ok (.bipush (-2), 2) := dcSn (j := 11) (v := 2) (f := Instr.bipush) sX7_smith_0 rfl op_16 rfl rfl rfl
theorem dX7_smith_13 : decode cX7_smith 13 = .ok (.ireturn, 1) := dc0 (j := 13) sX7_smith_0 rfl op_172
theorem dX7_smith_14 : decode cX7_smith 14 = .ok (.iload_n 2, 1) := dc0 (j := 14) sX7_smith_0 rfl op_28
theorem dX7_smith_15 : decode cX7_smith 15 = .ok (.tableswitch 160 0 9 #[53, 63, 73, 83, 93, 103, 113, 123, 133, 143], 53) := by decide +kernel
theorem sX7_smith_68 : sgm cX7_smith 68 [42, 180, 0, 10, 180, 0, 95, 27, 46, 172, 42, 180, 0, 10, 180, 0, 99, 27, 46, 172, 42, 180, 0, 10, 180, 0, 102, 27, 46, 172, 42, 180, 0, 10] := by decide +kernel
theorem dX7_smith_68 : decode cX7_smith 68 = .ok (.aload_n 0, 1) := dc0 (j := 0) sX7_smith_68 rfl op_42
theorem dX7_smith_69 : decode cX7_smith 69 = .ok (.getfield 10, 3) := dcB (j := 1) (f := Instr.getfield) sX7_smith_68 rfl op_180 rfl
theorem dX7_smith_72 : decode cX7_smith 72 = .ok (.getfield 95, 3) := dcB (j := 4) (f := Instr.getfield) sX7_smith_68 rfl op_180 rfl
theorem dX7_smith_75 : decode cX7_smith 75 = .ok (.iload_n 1, 1) := dc0 (j := 7) sX7_smith_68 rfl op_27
theorem dX7_smith_76 : decode cX7_smith 76 = .ok (.iaload, 1) := dc0 (j := 8) sX7_smith_68 rfl op_46
theorem dX7_smith_77 : decode cX7_smith 77 = .ok (.ireturn, 1) := dc0 (j := 9) sX7_smith_68 rfl op_172
theorem dX7_smith_78 : decode cX7_smith 78 = .ok (.aload_n 0, 1) := dc0 (j := 10) sX7_smith_68 rfl op_42
theorem dX7_smith_79 : decode cX7_smith 79 = .ok (.getfield 10, 3) := dcB (j := 11) (f := Instr.getfield) sX7_smith_68 rfl op_180 rfl
theorem dX7_smith_82 : decode cX7_smith 82 = .ok (.getfield 99, 3) := dcB (j := 14) (f := Instr.getfield) sX7_smith_68 rfl op_180 rfl
theorem dX7_smith_85 : decode cX7_smith 85 = .ok (.iload_n 1, 1) := dc0 (j := 17) sX7_smith_68 rfl op_27
theorem dX7_smith_86 : decode cX7_smith 86 = .ok (.iaload, 1) := dc0 (j := 18) sX7_smith_68 rfl op_46
theorem dX7_smith_87 : decode cX7_smith 87 = .ok (.ireturn, 1) := dc0 (j := 19) sX7_smith_68 rfl op_172
theorem dX7_smith_88 : decode cX7_smith 88 = .ok (.aload_n 0, 1) := dc0 (j := 20) sX7_smith_68 rfl op_42
theorem dX7_smith_89 : decode cX7_smith 89 = .ok (.getfield 10, 3) := dcB (j := 21) (f := Instr.getfield) sX7_smith_68 rfl op_180 rfl
theorem dX7_smith_92 : decode cX7_smith 92 = .ok (.getfield 102, 3) := dcB (j := 24) (f := Instr.getfield) sX7_smith_68 rfl op_180 rfl
theorem dX7_smith_95 : decode cX7_smith 95 = .ok (.iload_n 1, 1) := dc0 (j := 27) sX7_smith_68 rfl op_27
theorem dX7_smith_96 : decode cX7_smith 96 = .ok (.iaload, 1) := dc0 (j := 28) sX7_smith_68 rfl op_46
theorem dX7_smith_97 : decode cX7_smith 97 = .ok (.ireturn, 1) := dc0 (j := 29) sX7_smith_68 rfl op_172
theorem dX7_smith_98 : decode cX7_smith 98 = .ok (.aload_n 0, 1) := dc0 (j := 30) sX7_smith_68 rfl op_42
theorem dX7_smith_99 : decode cX7_smith 99 = .ok (.getfield 10, 3) := dcB (j := 31) (f := Instr.getfield) sX7_smith_68 rfl op_180 rfl
theorem sX7_smith_102 : sgm cX7_smith 102 [180, 0, 105, 27, 46, 172, 42, 180, 0, 10, 180, 0, 108, 27, 46, 172, 42, 180, 0, 10, 180, 0, 111, 27, 46, 172, 42, 180, 0, 10, 180, 0, 114, 27, 46, 172] := by decide +kernel
theorem dX7_smith_102 : decode cX7_smith 102 = .ok (.getfield 105, 3) := dcB (j := 0) (f := Instr.getfield) sX7_smith_102 rfl op_180 rfl
theorem dX7_smith_105 : decode cX7_smith 105 = .ok (.iload_n 1, 1) := dc0 (j := 3) sX7_smith_102 rfl op_27
theorem dX7_smith_106 : decode cX7_smith 106 = .ok (.iaload, 1) := dc0 (j := 4) sX7_smith_102 rfl op_46
theorem dX7_smith_107 : decode cX7_smith 107 = .ok (.ireturn, 1) := dc0 (j := 5) sX7_smith_102 rfl op_172
theorem dX7_smith_108 : decode cX7_smith 108 = .ok (.aload_n 0, 1) := dc0 (j := 6) sX7_smith_102 rfl op_42
theorem dX7_smith_109 : decode cX7_smith 109 = .ok (.getfield 10, 3) := dcB (j := 7) (f := Instr.getfield) sX7_smith_102 rfl op_180 rfl
theorem dX7_smith_112 : decode cX7_smith 112 = .ok (.getfield 108, 3) := dcB (j := 10) (f := Instr.getfield) sX7_smith_102 rfl op_180 rfl
theorem dX7_smith_115 : decode cX7_smith 115 = .ok (.iload_n 1, 1) := dc0 (j := 13) sX7_smith_102 rfl op_27
theorem dX7_smith_116 : decode cX7_smith 116 = .ok (.iaload, 1) := dc0 (j := 14) sX7_smith_102 rfl op_46
theorem dX7_smith_117 : decode cX7_smith 117 = .ok (.ireturn, 1) := dc0 (j := 15) sX7_smith_102 rfl op_172
theorem dX7_smith_118 : decode cX7_smith 118 = .ok (.aload_n 0, 1) := dc0 (j := 16) sX7_smith_102 rfl op_42
theorem dX7_smith_119 : decode cX7_smith 119 = .ok (.getfield 10, 3) := dcB (j := 17) (f := Instr.getfield) sX7_smith_102 rfl op_180 rfl
theorem dX7_smith_122 : decode cX7_smith 122 = .ok (.getfield 111, 3) := dcB (j := 20) (f := Instr.getfield) sX7_smith_102 rfl op_180 rfl
theorem dX7_smith_125 : decode cX7_smith 125 = .ok (.iload_n 1, 1) := dc0 (j := 23) sX7_smith_102 rfl op_27
theorem dX7_smith_126 : decode cX7_smith 126 = .ok (.iaload, 1) := dc0 (j := 24) sX7_smith_102 rfl op_46
theorem dX7_smith_127 : decode cX7_smith 127 = .ok (.ireturn, 1) := dc0 (j := 25) sX7_smith_102 rfl op_172
theorem dX7_smith_128 : decode cX7_smith 128 = .ok (.aload_n 0, 1) := dc0 (j := 26) sX7_smith_102 rfl op_42
theorem dX7_smith_129 : decode cX7_smith 129 = .ok (.getfield 10, 3) := dcB (j := 27) (f := Instr.getfield) sX7_smith_102 rfl op_180 rfl
theorem dX7_smith_132 : decode cX7_smith 132 = .ok (.getfield 114, 3) := dcB (j := 30) (f := Instr.getfield) sX7_smith_102 rfl op_180 rfl
theorem dX7_smith_135 : decode cX7_smith 135 = .ok (.iload_n 1, 1) := dc0 (j := 33) sX7_smith_102 rfl op_27
theorem dX7_smith_136 : decode cX7_smith 136 = .ok (.iaload, 1) := dc0 (j := 34) sX7_smith_102 rfl op_46
theorem dX7_smith_137 : decode cX7_smith 137 = .ok (.ireturn, 1) := dc0 (j := 35) sX7_smith_102 rfl op_172
theorem sX7_smith_138 : sgm cX7_smith 138 [42, 180, 0, 10, 180, 0, 117, 27, 46, 172, 42, 180, 0, 10, 180, 0, 120, 27, 46, 172, 42, 180, 0, 10, 27, 182, 0, 123, 153, 0, 7, 4, 167, 0, 4, 3] := by decide +kernel
theorem dX7_smith_138 : decode cX7_smith 138 = .ok (.aload_n 0, 1) := dc0 (j := 0) sX7_smith_138 rfl op_42
theorem dX7_smith_139 : decode cX7_smith 139 = .ok (.getfield 10, 3) := dcB (j := 1) (f := Instr.getfield) sX7_smith_138 rfl op_180 rfl
theorem dX7_smith_142 : decode cX7_smith 142 = .ok (.getfield 117, 3) := dcB (j := 4) (f := Instr.getfield) sX7_smith_138 rfl op_180 rfl
theorem dX7_smith_145 : decode cX7_smith 145 = .ok (.iload_n 1, 1) := dc0 (j := 7) sX7_smith_138 rfl op_27
theorem dX7_smith_146 : decode cX7_smith 146 = .ok (.iaload, 1) := dc0 (j := 8) sX7_smith_138 rfl op_46
theorem dX7_smith_147 : decode cX7_smith 147 = .ok (.ireturn, 1) := dc0 (j := 9) sX7_smith_138 rfl op_172
theorem dX7_smith_148 : decode cX7_smith 148 = .ok (.aload_n 0, 1) := dc0 (j := 10) sX7_smith_138 rfl op_42
theorem dX7_smith_149 : decode cX7_smith 149 = .ok (.getfield 10, 3) := dcB (j := 11) (f := Instr.getfield) sX7_smith_138 rfl op_180 rfl
theorem dX7_smith_152 : decode cX7_smith 152 = .ok (.getfield 120, 3) := dcB (j := 14) (f := Instr.getfield) sX7_smith_138 rfl op_180 rfl
theorem dX7_smith_155 : decode cX7_smith 155 = .ok (.iload_n 1, 1) := dc0 (j := 17) sX7_smith_138 rfl op_27
theorem dX7_smith_156 : decode cX7_smith 156 = .ok (.iaload, 1) := dc0 (j := 18) sX7_smith_138 rfl op_46
theorem dX7_smith_157 : decode cX7_smith 157 = .ok (.ireturn, 1) := dc0 (j := 19) sX7_smith_138 rfl op_172
theorem dX7_smith_158 : decode cX7_smith 158 = .ok (.aload_n 0, 1) := dc0 (j := 20) sX7_smith_138 rfl op_42
theorem dX7_smith_159 : decode cX7_smith 159 = .ok (.getfield 10, 3) := dcB (j := 21) (f := Instr.getfield) sX7_smith_138 rfl op_180 rfl
theorem dX7_smith_162 : decode cX7_smith 162 = .ok (.iload_n 1, 1) := dc0 (j := 24) sX7_smith_138 rfl op_27
theorem dX7_smith_163 : decode cX7_smith 163 = .ok (.invokevirtual 123, 3) := dcB (j := 25) (f := Instr.invokevirtual) sX7_smith_138 rfl op_182 rfl
theorem dX7_smith_166 : decode cX7_smith 166 = .ok (.ifCond .eq 7, 3) := dcTp (j := 28) (v := 7) (f := Instr.ifCond .eq) sX7_smith_138 rfl op_153 rfl rfl
theorem dX7_smith_169 : decode cX7_smith 169 = .ok (.iconst 1, 1) := dc0 (j := 31) sX7_smith_138 rfl op_4
theorem dX7_smith_170 : decode cX7_smith 170 = .ok (.goto 4, 3) := dcTp (j := 32) (v := 4) (f := Instr.goto) sX7_smith_138 rfl op_167 rfl rfl
theorem dX7_smith_173 : decode cX7_smith 173 = .ok (.iconst 0, 1) := dc0 (j := 35) sX7_smith_138 rfl op_3
theorem sX7_smith_174 : sgm cX7_smith 174 [172, 16, 254, 172] := by decide +kernel
theorem dX7_smith_174 : decode cX7_smith 174 = .ok (.ireturn, 1) := dc0 (j := 0) sX7_smith_174 rfl op_172
theorem dX7_smith_175 : decode cX7_smith 175 = .ok (.bipush (-2), 2) := dcSn (j := 1) (v := 2) (f := Instr.bipush) sX7_smith_174 rfl op_16 rfl rfl rfl
theorem dX7_smith_177 : decode cX7_smith 177 = .ok (.ireturn, 1) := dc0 (j := 3) sX7_smith_174 rfl op_172
theorem sX7_blowers_0 : sgm cX7_blowers 0 [42, 180, 0, 10, 27, 182, 0, 91, 153, 0, 14, 42, 180, 0, 10, 27, 182, 0, 126, 167, 0, 5, 16, 254, 172] := by decide +kernel
theorem dX7_blowers_0 : decode cX7_blowers 0 = .ok (.aload_n 0, 1) := dc0 (j := 0) sX7_blowers_0 rfl op_42
theorem dX7_blowers_1 : decode cX7_blowers 1 = .ok (.getfield 10, 3) := dcB (j := 1) (f := Instr.getfield) sX7_blowers_0 rfl op_180 rfl
theorem dX7_blowers_4 : decode cX7_blowers 4 = .ok (.iload_n 1, 1) := dc0 (j := 4) sX7_blowers_0 rfl op_27
theorem dX7_blowers_5 : decode cX7_blowers 5 = .ok (.invokevirtual 91, 3) := dcB (j := 5) (f := Instr.invokevirtual) sX7_blowers_0 rfl op_182 rfl
theorem dX7_blowers_8 : decode cX7_blowers 8 = .ok (.ifCond .eq 14, 3) := dcTp (j := 8) (v := 14) (f := Instr.ifCond .eq) sX7_blowers_0 rfl op_153 rfl rfl
theorem dX7_blowers_11 : decode cX7_blowers 11 = .ok (.aload_n 0, 1) := dc0 (j := 11) sX7_blowers_0 rfl op_42
theorem dX7_blowers_12 : decode cX7_blowers 12 = .ok (.getfield 10, 3) := dcB (j := 12) (f := Instr.getfield) sX7_blowers_0 rfl op_180 rfl
theorem dX7_blowers_15 : decode cX7_blowers 15 = .ok (.iload_n 1, 1) := dc0 (j := 15) sX7_blowers_0 rfl op_27
theorem dX7_blowers_16 : decode cX7_blowers 16 = .ok (.invokevirtual 126, 3) := dcB (j := 16) (f := Instr.invokevirtual) sX7_blowers_0 rfl op_182 rfl
theorem dX7_blowers_19 : decode cX7_blowers 19 = .ok (.goto 5, 3) := dcTp (j := 19) (v := 5) (f := Instr.goto) sX7_blowers_0 rfl op_167 rfl rfl
theorem dX7_blowers_22 : decode cX7_blowers 22 = .ok (.bipush (-2), 2) := dcSn (j := 22) (v := 2) (f := Instr.bipush) sX7_blowers_0 rfl op_16 rfl rfl rfl
theorem dX7_blowers_24 : decode cX7_blowers 24 = .ok (.ireturn, 1) := dc0 (j := 24) sX7_blowers_0 rfl op_172
theorem sX7_rope_0 : sgm cX7_rope 0 [42, 180, 0, 10, 27, 182, 0, 91, 153, 0, 14, 42, 180, 0, 10, 28, 182, 0, 91, 154, 0, 6, 16, 254, 172, 42, 180, 0, 10, 180, 0, 120, 27, 46, 62, 42] := by decide +kernel
theorem dX7_rope_0 : decode cX7_rope 0 = .ok (.aload_n 0, 1) := dc0 (j := 0) sX7_rope_0 rfl op_42
theorem dX7_rope_1 : decode cX7_rope 1 = .ok (.getfield 10, 3) := dcB (j := 1) (f := Instr.getfield) sX7_rope_0 rfl op_180 rfl
theorem dX7_rope_4 : decode cX7_rope 4 = .ok (.iload_n 1, 1) := dc0 (j := 4) sX7_rope_0 rfl op_27
theorem dX7_rope_5 : decode cX7_rope 5 = .ok (.invokevirtual 91, 3) := dcB (j := 5) (f := Instr.invokevirtual) sX7_rope_0 rfl op_182 rfl
theorem dX7_rope_8 : decode cX7_rope 8 = .ok (.ifCond .eq 14, 3) := dcTp (j := 8) (v := 14) (f := Instr.ifCond .eq) sX7_rope_0 rfl op_153 rfl rfl
theorem dX7_rope_11 : decode cX7_rope 11 = .ok (.aload_n 0, 1) := dc0 (j := 11) sX7_rope_0 rfl op_42
theorem dX7_rope_12 : decode cX7_rope 12 = .ok (.getfield 10, 3) := dcB (j := 12) (f := Instr.getfield) sX7_rope_0 rfl op_180 rfl
theorem dX7_rope_15 : decode cX7_rope 15 = .ok (.iload_n 2, 1) := dc0 (j := 15) sX7_rope_0 rfl op_28
theorem dX7_rope_16 : decode cX7_rope 16 = .ok (.invokevirtual 91, 3) := dcB (j := 16) (f := Instr.invokevirtual) sX7_rope_0 rfl op_182 rfl
theorem dX7_rope_19 : decode cX7_rope 19 = .ok (.ifCond .ne 6, 3) := dcTp (j := 19) (v := 6) (f := Instr.ifCond .ne) sX7_rope_0 rfl op_154 rfl rfl
theorem dX7_rope_22 : decode cX7_rope 22 = .ok (.bipush (-2), 2) := dcSn (j := 22) (v := 2) (f := Instr.bipush) sX7_rope_0 rfl op_16 rfl rfl rfl
theorem dX7_rope_24 : decode cX7_rope 24 = .ok (.ireturn, 1) := dc0 (j := 24) sX7_rope_0 rfl op_172
theorem dX7_rope_25 : decode cX7_rope 25 = .ok (.aload_n 0, 1) := dc0 (j := 25) sX7_rope_0 rfl op_42
theorem dX7_rope_26 : decode cX7_rope 26 = .ok (.getfield 10, 3) := dcB (j := 26) (f := Instr.getfield) sX7_rope_0 rfl op_180 rfl
theorem dX7_rope_29 : decode cX7_rope 29 = .ok (.getfield 120, 3) := dcB (j := 29) (f := Instr.getfield) sX7_rope_0 rfl op_180 rfl
theorem dX7_rope_32 : decode cX7_rope 32 = .ok (.iload_n 1, 1) := dc0 (j := 32) sX7_rope_0 rfl op_27
theorem dX7_rope_33 : decode cX7_rope 33 = .ok (.iaload, 1) := dc0 (j := 33) sX7_rope_0 rfl op_46
theorem dX7_rope_34 : decode cX7_rope 34 = .ok (.istore_n 3, 1) := dc0 (j := 34) sX7_rope_0 rfl op_62
theorem dX7_rope_35 : decode cX7_rope 35 = .ok (.aload_n 0, 1) := dc0 (j := 35) sX7_rope_0 rfl op_42
theorem sX7_rope_36 : sgm cX7_rope 36 [180, 0, 10, 180, 0, 120, 27, 28, 79, 29, 172] := by decide +kernel
theorem dX7_rope_36 : decode cX7_rope 36 = .ok (.getfield 10, 3) := dcB (j := 0) (f := Instr.getfield) sX7_rope_36 rfl op_180 rfl
theorem dX7_rope_39 : decode cX7_rope 39 = .ok (.getfield 120, 3) := dcB (j := 3) (f := Instr.getfield) sX7_rope_36 rfl op_180 rfl
theorem dX7_rope_42 : decode cX7_rope 42 = .ok (.iload_n 1, 1) := dc0 (j := 6) sX7_rope_36 rfl op_27
theorem dX7_rope_43 : decode cX7_rope 43 = .ok (.iload_n 2, 1) := dc0 (j := 7) sX7_rope_36 rfl op_28
theorem dX7_rope_44 : decode cX7_rope 44 = .ok (.iastore, 1) := dc0 (j := 8) sX7_rope_36 rfl op_79
theorem dX7_rope_45 : decode cX7_rope 45 = .ok (.iload_n 3, 1) := dc0 (j := 9) sX7_rope_36 rfl op_29
theorem dX7_rope_46 : decode cX7_rope 46 = .ok (.ireturn, 1) := dc0 (j := 10) sX7_rope_36 rfl op_172
theorem sX7_arm_0 : sgm cX7_arm 0 [42, 180, 0, 10, 27, 182, 0, 91, 154, 0, 6, 16, 254, 172, 28, 3, 16, 60, 184, 0, 70, 154, 0, 6, 16, 253, 172, 42, 180, 0, 10, 180, 0, 95, 27, 46] := by decide +kernel
theorem dX7_arm_0 : decode cX7_arm 0 = .ok (.aload_n 0, 1) := dc0 (j := 0) sX7_arm_0 rfl op_42
theorem dX7_arm_1 : decode cX7_arm 1 = .ok (.getfield 10, 3) := dcB (j := 1) (f := Instr.getfield) sX7_arm_0 rfl op_180 rfl
theorem dX7_arm_4 : decode cX7_arm 4 = .ok (.iload_n 1, 1) := dc0 (j := 4) sX7_arm_0 rfl op_27
theorem dX7_arm_5 : decode cX7_arm 5 = .ok (.invokevirtual 91, 3) := dcB (j := 5) (f := Instr.invokevirtual) sX7_arm_0 rfl op_182 rfl
theorem dX7_arm_8 : decode cX7_arm 8 = .ok (.ifCond .ne 6, 3) := dcTp (j := 8) (v := 6) (f := Instr.ifCond .ne) sX7_arm_0 rfl op_154 rfl rfl
theorem dX7_arm_11 : decode cX7_arm 11 = .ok (.bipush (-2), 2) := dcSn (j := 11) (v := 2) (f := Instr.bipush) sX7_arm_0 rfl op_16 rfl rfl rfl
theorem dX7_arm_13 : decode cX7_arm 13 = .ok (.ireturn, 1) := dc0 (j := 13) sX7_arm_0 rfl op_172
theorem dX7_arm_14 : decode cX7_arm 14 = .ok (.iload_n 2, 1) := dc0 (j := 14) sX7_arm_0 rfl op_28
theorem dX7_arm_15 : decode cX7_arm 15 = .ok (.iconst 0, 1) := dc0 (j := 15) sX7_arm_0 rfl op_3
theorem dX7_arm_16 : decode cX7_arm 16 = .ok (.bipush 60, 2) := dcSp (j := 16) (a := 60) (f := Instr.bipush) sX7_arm_0 rfl op_16 rfl
theorem dX7_arm_18 : decode cX7_arm 18 = .ok (.invokestatic 70, 3) := dcB (j := 18) (f := Instr.invokestatic) sX7_arm_0 rfl op_184 rfl
theorem dX7_arm_21 : decode cX7_arm 21 = .ok (.ifCond .ne 6, 3) := dcTp (j := 21) (v := 6) (f := Instr.ifCond .ne) sX7_arm_0 rfl op_154 rfl rfl
theorem dX7_arm_24 : decode cX7_arm 24 = .ok (.bipush (-3), 2) := dcSn (j := 24) (v := 3) (f := Instr.bipush) sX7_arm_0 rfl op_16 rfl rfl rfl
theorem dX7_arm_26 : decode cX7_arm 26 = .ok (.ireturn, 1) := dc0 (j := 26) sX7_arm_0 rfl op_172
theorem dX7_arm_27 : decode cX7_arm 27 = .ok (.aload_n 0, 1) := dc0 (j := 27) sX7_arm_0 rfl op_42
theorem dX7_arm_28 : decode cX7_arm 28 = .ok (.getfield 10, 3) := dcB (j := 28) (f := Instr.getfield) sX7_arm_0 rfl op_180 rfl
theorem dX7_arm_31 : decode cX7_arm 31 = .ok (.getfield 95, 3) := dcB (j := 31) (f := Instr.getfield) sX7_arm_0 rfl op_180 rfl
theorem dX7_arm_34 : decode cX7_arm 34 = .ok (.iload_n 1, 1) := dc0 (j := 34) sX7_arm_0 rfl op_27
theorem dX7_arm_35 : decode cX7_arm 35 = .ok (.iaload, 1) := dc0 (j := 35) sX7_arm_0 rfl op_46
theorem sX7_arm_36 : sgm cX7_arm 36 [62, 42, 180, 0, 10, 180, 0, 95, 27, 28, 79, 29, 172] := by decide +kernel
theorem dX7_arm_36 : decode cX7_arm 36 = .ok (.istore_n 3, 1) := dc0 (j := 0) sX7_arm_36 rfl op_62
theorem dX7_arm_37 : decode cX7_arm 37 = .ok (.aload_n 0, 1) := dc0 (j := 1) sX7_arm_36 rfl op_42
theorem dX7_arm_38 : decode cX7_arm 38 = .ok (.getfield 10, 3) := dcB (j := 2) (f := Instr.getfield) sX7_arm_36 rfl op_180 rfl
theorem dX7_arm_41 : decode cX7_arm 41 = .ok (.getfield 95, 3) := dcB (j := 5) (f := Instr.getfield) sX7_arm_36 rfl op_180 rfl
theorem dX7_arm_44 : decode cX7_arm 44 = .ok (.iload_n 1, 1) := dc0 (j := 8) sX7_arm_36 rfl op_27
theorem dX7_arm_45 : decode cX7_arm 45 = .ok (.iload_n 2, 1) := dc0 (j := 9) sX7_arm_36 rfl op_28
theorem dX7_arm_46 : decode cX7_arm 46 = .ok (.iastore, 1) := dc0 (j := 10) sX7_arm_36 rfl op_79
theorem dX7_arm_47 : decode cX7_arm 47 = .ok (.iload_n 3, 1) := dc0 (j := 11) sX7_arm_36 rfl op_29
theorem dX7_arm_48 : decode cX7_arm 48 = .ok (.ireturn, 1) := dc0 (j := 12) sX7_arm_36 rfl op_172
theorem sX7_piece_0 : sgm cX7_piece 0 [42, 180, 0, 10, 27, 182, 0, 91, 154, 0, 6, 16, 254, 172, 28, 3, 16, 20, 184, 0, 70, 154, 0, 6, 16, 253, 172, 42, 180, 0, 10, 180, 0, 114, 27, 46] := by decide +kernel
theorem dX7_piece_0 : decode cX7_piece 0 = .ok (.aload_n 0, 1) := dc0 (j := 0) sX7_piece_0 rfl op_42
theorem dX7_piece_1 : decode cX7_piece 1 = .ok (.getfield 10, 3) := dcB (j := 1) (f := Instr.getfield) sX7_piece_0 rfl op_180 rfl
theorem dX7_piece_4 : decode cX7_piece 4 = .ok (.iload_n 1, 1) := dc0 (j := 4) sX7_piece_0 rfl op_27
theorem dX7_piece_5 : decode cX7_piece 5 = .ok (.invokevirtual 91, 3) := dcB (j := 5) (f := Instr.invokevirtual) sX7_piece_0 rfl op_182 rfl
theorem dX7_piece_8 : decode cX7_piece 8 = .ok (.ifCond .ne 6, 3) := dcTp (j := 8) (v := 6) (f := Instr.ifCond .ne) sX7_piece_0 rfl op_154 rfl rfl
theorem dX7_piece_11 : decode cX7_piece 11 = .ok (.bipush (-2), 2) := dcSn (j := 11) (v := 2) (f := Instr.bipush) sX7_piece_0 rfl op_16 rfl rfl rfl
theorem dX7_piece_13 : decode cX7_piece 13 = .ok (.ireturn, 1) := dc0 (j := 13) sX7_piece_0 rfl op_172
theorem dX7_piece_14 : decode cX7_piece 14 = .ok (.iload_n 2, 1) := dc0 (j := 14) sX7_piece_0 rfl op_28
theorem dX7_piece_15 : decode cX7_piece 15 = .ok (.iconst 0, 1) := dc0 (j := 15) sX7_piece_0 rfl op_3
theorem dX7_piece_16 : decode cX7_piece 16 = .ok (.bipush 20, 2) := dcSp (j := 16) (a := 20) (f := Instr.bipush) sX7_piece_0 rfl op_16 rfl
theorem dX7_piece_18 : decode cX7_piece 18 = .ok (.invokestatic 70, 3) := dcB (j := 18) (f := Instr.invokestatic) sX7_piece_0 rfl op_184 rfl
theorem dX7_piece_21 : decode cX7_piece 21 = .ok (.ifCond .ne 6, 3) := dcTp (j := 21) (v := 6) (f := Instr.ifCond .ne) sX7_piece_0 rfl op_154 rfl rfl
theorem dX7_piece_24 : decode cX7_piece 24 = .ok (.bipush (-3), 2) := dcSn (j := 24) (v := 3) (f := Instr.bipush) sX7_piece_0 rfl op_16 rfl rfl rfl
theorem dX7_piece_26 : decode cX7_piece 26 = .ok (.ireturn, 1) := dc0 (j := 26) sX7_piece_0 rfl op_172
theorem dX7_piece_27 : decode cX7_piece 27 = .ok (.aload_n 0, 1) := dc0 (j := 27) sX7_piece_0 rfl op_42
theorem dX7_piece_28 : decode cX7_piece 28 = .ok (.getfield 10, 3) := dcB (j := 28) (f := Instr.getfield) sX7_piece_0 rfl op_180 rfl
theorem dX7_piece_31 : decode cX7_piece 31 = .ok (.getfield 114, 3) := dcB (j := 31) (f := Instr.getfield) sX7_piece_0 rfl op_180 rfl
theorem dX7_piece_34 : decode cX7_piece 34 = .ok (.iload_n 1, 1) := dc0 (j := 34) sX7_piece_0 rfl op_27
theorem dX7_piece_35 : decode cX7_piece 35 = .ok (.iaload, 1) := dc0 (j := 35) sX7_piece_0 rfl op_46
theorem sX7_piece_36 : sgm cX7_piece 36 [62, 42, 180, 0, 10, 27, 28, 182, 0, 130, 29, 172] := by decide +kernel
theorem dX7_piece_36 : decode cX7_piece 36 = .ok (.istore_n 3, 1) := dc0 (j := 0) sX7_piece_36 rfl op_62
theorem dX7_piece_37 : decode cX7_piece 37 = .ok (.aload_n 0, 1) := dc0 (j := 1) sX7_piece_36 rfl op_42
theorem dX7_piece_38 : decode cX7_piece 38 = .ok (.getfield 10, 3) := dcB (j := 2) (f := Instr.getfield) sX7_piece_36 rfl op_180 rfl
theorem dX7_piece_41 : decode cX7_piece 41 = .ok (.iload_n 1, 1) := dc0 (j := 5) sX7_piece_36 rfl op_27
theorem dX7_piece_42 : decode cX7_piece 42 = .ok (.iload_n 2, 1) := dc0 (j := 6) sX7_piece_36 rfl op_28
theorem dX7_piece_43 : decode cX7_piece 43 = .ok (.invokevirtual 130, 3) := dcB (j := 7) (f := Instr.invokevirtual) sX7_piece_36 rfl op_182 rfl
theorem dX7_piece_46 : decode cX7_piece 46 = .ok (.iload_n 3, 1) := dc0 (j := 10) sX7_piece_36 rfl op_29
theorem dX7_piece_47 : decode cX7_piece 47 = .ok (.ireturn, 1) := dc0 (j := 11) sX7_piece_36 rfl op_172
theorem sX7_minute_0 : sgm cX7_minute 0 [42, 180, 0, 10, 27, 182, 0, 134, 153, 0, 20, 42, 180, 0, 10, 28, 182, 0, 134, 153, 0, 9, 27, 28, 126, 153, 0, 6, 16, 253, 172, 42, 180, 0, 10] := by decide +kernel
theorem dX7_minute_0 : decode cX7_minute 0 = .ok (.aload_n 0, 1) := dc0 (j := 0) sX7_minute_0 rfl op_42
theorem dX7_minute_1 : decode cX7_minute 1 = .ok (.getfield 10, 3) := dcB (j := 1) (f := Instr.getfield) sX7_minute_0 rfl op_180 rfl
theorem dX7_minute_4 : decode cX7_minute 4 = .ok (.iload_n 1, 1) := dc0 (j := 4) sX7_minute_0 rfl op_27
theorem dX7_minute_5 : decode cX7_minute 5 = .ok (.invokevirtual 134, 3) := dcB (j := 5) (f := Instr.invokevirtual) sX7_minute_0 rfl op_182 rfl
theorem dX7_minute_8 : decode cX7_minute 8 = .ok (.ifCond .eq 20, 3) := dcTp (j := 8) (v := 20) (f := Instr.ifCond .eq) sX7_minute_0 rfl op_153 rfl rfl
theorem dX7_minute_11 : decode cX7_minute 11 = .ok (.aload_n 0, 1) := dc0 (j := 11) sX7_minute_0 rfl op_42
theorem dX7_minute_12 : decode cX7_minute 12 = .ok (.getfield 10, 3) := dcB (j := 12) (f := Instr.getfield) sX7_minute_0 rfl op_180 rfl
theorem dX7_minute_15 : decode cX7_minute 15 = .ok (.iload_n 2, 1) := dc0 (j := 15) sX7_minute_0 rfl op_28
theorem dX7_minute_16 : decode cX7_minute 16 = .ok (.invokevirtual 134, 3) := dcB (j := 16) (f := Instr.invokevirtual) sX7_minute_0 rfl op_182 rfl
theorem dX7_minute_19 : decode cX7_minute 19 = .ok (.ifCond .eq 9, 3) := dcTp (j := 19) (v := 9) (f := Instr.ifCond .eq) sX7_minute_0 rfl op_153 rfl rfl
theorem dX7_minute_22 : decode cX7_minute 22 = .ok (.iload_n 1, 1) := dc0 (j := 22) sX7_minute_0 rfl op_27
theorem dX7_minute_23 : decode cX7_minute 23 = .ok (.iload_n 2, 1) := dc0 (j := 23) sX7_minute_0 rfl op_28
theorem dX7_minute_24 : decode cX7_minute 24 = .ok (.iand, 1) := dc0 (j := 24) sX7_minute_0 rfl op_126
theorem dX7_minute_25 : decode cX7_minute 25 = .ok (.ifCond .eq 6, 3) := dcTp (j := 25) (v := 6) (f := Instr.ifCond .eq) sX7_minute_0 rfl op_153 rfl rfl
theorem dX7_minute_28 : decode cX7_minute 28 = .ok (.bipush (-3), 2) := dcSn (j := 28) (v := 3) (f := Instr.bipush) sX7_minute_0 rfl op_16 rfl rfl rfl
theorem dX7_minute_30 : decode cX7_minute 30 = .ok (.ireturn, 1) := dc0 (j := 30) sX7_minute_0 rfl op_172
theorem dX7_minute_31 : decode cX7_minute 31 = .ok (.aload_n 0, 1) := dc0 (j := 31) sX7_minute_0 rfl op_42
theorem dX7_minute_32 : decode cX7_minute 32 = .ok (.getfield 10, 3) := dcB (j := 32) (f := Instr.getfield) sX7_minute_0 rfl op_180 rfl
theorem sX7_minute_35 : sgm cX7_minute 35 [180, 0, 137, 17, 39, 15, 161, 0, 6, 16, 251, 172, 42, 180, 0, 10, 27, 28, 2, 3, 182, 0, 140, 172] := by decide +kernel
theorem dX7_minute_35 : decode cX7_minute 35 = .ok (.getfield 137, 3) := dcB (j := 0) (f := Instr.getfield) sX7_minute_35 rfl op_180 rfl
theorem dX7_minute_38 : decode cX7_minute 38 = .ok (.sipush 9999, 3) := dcTp (j := 3) (v := 9999) (f := Instr.sipush) sX7_minute_35 rfl op_17 rfl rfl
theorem dX7_minute_41 : decode cX7_minute 41 = .ok (.if_icmp .lt 6, 3) := dcTp (j := 6) (v := 6) (f := Instr.if_icmp .lt) sX7_minute_35 rfl op_161 rfl rfl
theorem dX7_minute_44 : decode cX7_minute 44 = .ok (.bipush (-5), 2) := dcSn (j := 9) (v := 5) (f := Instr.bipush) sX7_minute_35 rfl op_16 rfl rfl rfl
theorem dX7_minute_46 : decode cX7_minute 46 = .ok (.ireturn, 1) := dc0 (j := 11) sX7_minute_35 rfl op_172
theorem dX7_minute_47 : decode cX7_minute 47 = .ok (.aload_n 0, 1) := dc0 (j := 12) sX7_minute_35 rfl op_42
theorem dX7_minute_48 : decode cX7_minute 48 = .ok (.getfield 10, 3) := dcB (j := 13) (f := Instr.getfield) sX7_minute_35 rfl op_180 rfl
theorem dX7_minute_51 : decode cX7_minute 51 = .ok (.iload_n 1, 1) := dc0 (j := 16) sX7_minute_35 rfl op_27
theorem dX7_minute_52 : decode cX7_minute 52 = .ok (.iload_n 2, 1) := dc0 (j := 17) sX7_minute_35 rfl op_28
theorem dX7_minute_53 : decode cX7_minute 53 = .ok (.iconst (-1), 1) := dc0 (j := 18) sX7_minute_35 rfl op_2
theorem dX7_minute_54 : decode cX7_minute 54 = .ok (.iconst 0, 1) := dc0 (j := 19) sX7_minute_35 rfl op_3
theorem dX7_minute_55 : decode cX7_minute 55 = .ok (.invokevirtual 140, 3) := dcB (j := 20) (f := Instr.invokevirtual) sX7_minute_35 rfl op_182 rfl
theorem dX7_minute_58 : decode cX7_minute 58 = .ok (.ireturn, 1) := dc0 (j := 23) sX7_minute_35 rfl op_172
theorem sX7_judge_0 : sgm cX7_judge 0 [27, 184, 0, 144, 153, 0, 12, 28, 3, 7, 184, 0, 70, 154, 0, 6, 16, 254, 172, 42, 180, 0, 29, 27, 50, 180, 0, 147, 154, 0, 6, 16, 250, 172, 42] := by decide +kernel
theorem dX7_judge_0 : decode cX7_judge 0 = .ok (.iload_n 1, 1) := dc0 (j := 0) sX7_judge_0 rfl op_27
theorem dX7_judge_1 : decode cX7_judge 1 = .ok (.invokestatic 144, 3) := dcB (j := 1) (f := Instr.invokestatic) sX7_judge_0 rfl op_184 rfl
theorem dX7_judge_4 : decode cX7_judge 4 = .ok (.ifCond .eq 12, 3) := dcTp (j := 4) (v := 12) (f := Instr.ifCond .eq) sX7_judge_0 rfl op_153 rfl rfl
theorem dX7_judge_7 : decode cX7_judge 7 = .ok (.iload_n 2, 1) := dc0 (j := 7) sX7_judge_0 rfl op_28
theorem dX7_judge_8 : decode cX7_judge 8 = .ok (.iconst 0, 1) := dc0 (j := 8) sX7_judge_0 rfl op_3
theorem dX7_judge_9 : decode cX7_judge 9 = .ok (.iconst 4, 1) := dc0 (j := 9) sX7_judge_0 rfl op_7
theorem dX7_judge_10 : decode cX7_judge 10 = .ok (.invokestatic 70, 3) := dcB (j := 10) (f := Instr.invokestatic) sX7_judge_0 rfl op_184 rfl
theorem dX7_judge_13 : decode cX7_judge 13 = .ok (.ifCond .ne 6, 3) := dcTp (j := 13) (v := 6) (f := Instr.ifCond .ne) sX7_judge_0 rfl op_154 rfl rfl
theorem dX7_judge_16 : decode cX7_judge 16 = .ok (.bipush (-2), 2) := dcSn (j := 16) (v := 2) (f := Instr.bipush) sX7_judge_0 rfl op_16 rfl rfl rfl
theorem dX7_judge_18 : decode cX7_judge 18 = .ok (.ireturn, 1) := dc0 (j := 18) sX7_judge_0 rfl op_172
theorem dX7_judge_19 : decode cX7_judge 19 = .ok (.aload_n 0, 1) := dc0 (j := 19) sX7_judge_0 rfl op_42
theorem dX7_judge_20 : decode cX7_judge 20 = .ok (.getfield 29, 3) := dcB (j := 20) (f := Instr.getfield) sX7_judge_0 rfl op_180 rfl
theorem dX7_judge_23 : decode cX7_judge 23 = .ok (.iload_n 1, 1) := dc0 (j := 23) sX7_judge_0 rfl op_27
theorem dX7_judge_24 : decode cX7_judge 24 = .ok (.aaload, 1) := dc0 (j := 24) sX7_judge_0 rfl op_50
theorem dX7_judge_25 : decode cX7_judge 25 = .ok (.getfield 147, 3) := dcB (j := 25) (f := Instr.getfield) sX7_judge_0 rfl op_180 rfl
theorem dX7_judge_28 : decode cX7_judge 28 = .ok (.ifCond .ne 6, 3) := dcTp (j := 28) (v := 6) (f := Instr.ifCond .ne) sX7_judge_0 rfl op_154 rfl rfl
theorem dX7_judge_31 : decode cX7_judge 31 = .ok (.bipush (-6), 2) := dcSn (j := 31) (v := 6) (f := Instr.bipush) sX7_judge_0 rfl op_16 rfl rfl rfl
theorem dX7_judge_33 : decode cX7_judge 33 = .ok (.ireturn, 1) := dc0 (j := 33) sX7_judge_0 rfl op_172
theorem dX7_judge_34 : decode cX7_judge 34 = .ok (.aload_n 0, 1) := dc0 (j := 34) sX7_judge_0 rfl op_42
theorem sX7_judge_35 : sgm cX7_judge 35 [180, 0, 16, 42, 180, 0, 10, 182, 0, 81, 42, 180, 0, 43, 42, 180, 0, 16, 42, 180, 0, 29, 27, 50, 182, 0, 151, 28] := by decide +kernel
theorem dX7_judge_35 : decode cX7_judge 35 = .ok (.getfield 16, 3) := dcB (j := 0) (f := Instr.getfield) sX7_judge_35 rfl op_180 rfl
theorem dX7_judge_38 : decode cX7_judge 38 = .ok (.aload_n 0, 1) := dc0 (j := 3) sX7_judge_35 rfl op_42
theorem dX7_judge_39 : decode cX7_judge 39 = .ok (.getfield 10, 3) := dcB (j := 4) (f := Instr.getfield) sX7_judge_35 rfl op_180 rfl
theorem dX7_judge_42 : decode cX7_judge 42 = .ok (.invokevirtual 81, 3) := dcB (j := 7) (f := Instr.invokevirtual) sX7_judge_35 rfl op_182 rfl
theorem dX7_judge_45 : decode cX7_judge 45 = .ok (.aload_n 0, 1) := dc0 (j := 10) sX7_judge_35 rfl op_42
theorem dX7_judge_46 : decode cX7_judge 46 = .ok (.getfield 43, 3) := dcB (j := 11) (f := Instr.getfield) sX7_judge_35 rfl op_180 rfl
theorem dX7_judge_49 : decode cX7_judge 49 = .ok (.aload_n 0, 1) := dc0 (j := 14) sX7_judge_35 rfl op_42
theorem dX7_judge_50 : decode cX7_judge 50 = .ok (.getfield 16, 3) := dcB (j := 15) (f := Instr.getfield) sX7_judge_35 rfl op_180 rfl
theorem dX7_judge_53 : decode cX7_judge 53 = .ok (.aload_n 0, 1) := dc0 (j := 18) sX7_judge_35 rfl op_42
theorem dX7_judge_54 : decode cX7_judge 54 = .ok (.getfield 29, 3) := dcB (j := 19) (f := Instr.getfield) sX7_judge_35 rfl op_180 rfl
theorem dX7_judge_57 : decode cX7_judge 57 = .ok (.iload_n 1, 1) := dc0 (j := 22) sX7_judge_35 rfl op_27
theorem dX7_judge_58 : decode cX7_judge 58 = .ok (.aaload, 1) := dc0 (j := 23) sX7_judge_35 rfl op_50
theorem dX7_judge_59 : decode cX7_judge 59 = .ok (.invokevirtual 151, 3) := dcB (j := 24) (f := Instr.invokevirtual) sX7_judge_35 rfl op_182 rfl
theorem dX7_judge_62 : decode cX7_judge 62 = .ok (.iload_n 2, 1) := dc0 (j := 27) sX7_judge_35 rfl op_28
theorem dX7_judge_63 : decode cX7_judge 63 = .ok (.tableswitch 75 0 3 #[29, 51, 59, 67], 29) := by decide +kernel
theorem sX7_judge_92 : sgm cX7_judge 92 [42, 180, 0, 43, 180, 0, 155, 154, 0, 7, 2, 167, 0, 10, 42, 180, 0, 43, 180, 0, 158, 172, 42, 180, 0, 43, 180, 0, 155, 172, 42, 180, 0, 43] := by decide +kernel
theorem dX7_judge_92 : decode cX7_judge 92 = .ok (.aload_n 0, 1) := dc0 (j := 0) sX7_judge_92 rfl op_42
theorem dX7_judge_93 : decode cX7_judge 93 = .ok (.getfield 43, 3) := dcB (j := 1) (f := Instr.getfield) sX7_judge_92 rfl op_180 rfl
theorem dX7_judge_96 : decode cX7_judge 96 = .ok (.getfield 155, 3) := dcB (j := 4) (f := Instr.getfield) sX7_judge_92 rfl op_180 rfl
theorem dX7_judge_99 : decode cX7_judge 99 = .ok (.ifCond .ne 7, 3) := dcTp (j := 7) (v := 7) (f := Instr.ifCond .ne) sX7_judge_92 rfl op_154 rfl rfl
theorem dX7_judge_102 : decode cX7_judge 102 = .ok (.iconst (-1), 1) := dc0 (j := 10) sX7_judge_92 rfl op_2
theorem dX7_judge_103 : decode cX7_judge 103 = .ok (.goto 10, 3) := dcTp (j := 11) (v := 10) (f := Instr.goto) sX7_judge_92 rfl op_167 rfl rfl
theorem dX7_judge_106 : decode cX7_judge 106 = .ok (.aload_n 0, 1) := dc0 (j := 14) sX7_judge_92 rfl op_42
theorem dX7_judge_107 : decode cX7_judge 107 = .ok (.getfield 43, 3) := dcB (j := 15) (f := Instr.getfield) sX7_judge_92 rfl op_180 rfl
theorem dX7_judge_110 : decode cX7_judge 110 = .ok (.getfield 158, 3) := dcB (j := 18) (f := Instr.getfield) sX7_judge_92 rfl op_180 rfl
theorem dX7_judge_113 : decode cX7_judge 113 = .ok (.ireturn, 1) := dc0 (j := 21) sX7_judge_92 rfl op_172
theorem dX7_judge_114 : decode cX7_judge 114 = .ok (.aload_n 0, 1) := dc0 (j := 22) sX7_judge_92 rfl op_42
theorem dX7_judge_115 : decode cX7_judge 115 = .ok (.getfield 43, 3) := dcB (j := 23) (f := Instr.getfield) sX7_judge_92 rfl op_180 rfl
theorem dX7_judge_118 : decode cX7_judge 118 = .ok (.getfield 155, 3) := dcB (j := 26) (f := Instr.getfield) sX7_judge_92 rfl op_180 rfl
theorem dX7_judge_121 : decode cX7_judge 121 = .ok (.ireturn, 1) := dc0 (j := 29) sX7_judge_92 rfl op_172
theorem dX7_judge_122 : decode cX7_judge 122 = .ok (.aload_n 0, 1) := dc0 (j := 30) sX7_judge_92 rfl op_42
theorem dX7_judge_123 : decode cX7_judge 123 = .ok (.getfield 43, 3) := dcB (j := 31) (f := Instr.getfield) sX7_judge_92 rfl op_180 rfl
theorem sX7_judge_126 : sgm cX7_judge 126 [180, 0, 161, 172, 42, 180, 0, 16, 182, 0, 164, 172, 42, 180, 0, 16, 180, 0, 168, 42, 180, 0, 10, 180, 0, 168, 100, 172] := by decide +kernel
theorem dX7_judge_126 : decode cX7_judge 126 = .ok (.getfield 161, 3) := dcB (j := 0) (f := Instr.getfield) sX7_judge_126 rfl op_180 rfl
theorem dX7_judge_129 : decode cX7_judge 129 = .ok (.ireturn, 1) := dc0 (j := 3) sX7_judge_126 rfl op_172
theorem dX7_judge_130 : decode cX7_judge 130 = .ok (.aload_n 0, 1) := dc0 (j := 4) sX7_judge_126 rfl op_42
theorem dX7_judge_131 : decode cX7_judge 131 = .ok (.getfield 16, 3) := dcB (j := 5) (f := Instr.getfield) sX7_judge_126 rfl op_180 rfl
theorem dX7_judge_134 : decode cX7_judge 134 = .ok (.invokevirtual 164, 3) := dcB (j := 8) (f := Instr.invokevirtual) sX7_judge_126 rfl op_182 rfl
theorem dX7_judge_137 : decode cX7_judge 137 = .ok (.ireturn, 1) := dc0 (j := 11) sX7_judge_126 rfl op_172
theorem dX7_judge_138 : decode cX7_judge 138 = .ok (.aload_n 0, 1) := dc0 (j := 12) sX7_judge_126 rfl op_42
theorem dX7_judge_139 : decode cX7_judge 139 = .ok (.getfield 16, 3) := dcB (j := 13) (f := Instr.getfield) sX7_judge_126 rfl op_180 rfl
theorem dX7_judge_142 : decode cX7_judge 142 = .ok (.getfield 168, 3) := dcB (j := 16) (f := Instr.getfield) sX7_judge_126 rfl op_180 rfl
theorem dX7_judge_145 : decode cX7_judge 145 = .ok (.aload_n 0, 1) := dc0 (j := 19) sX7_judge_126 rfl op_42
theorem dX7_judge_146 : decode cX7_judge 146 = .ok (.getfield 10, 3) := dcB (j := 20) (f := Instr.getfield) sX7_judge_126 rfl op_180 rfl
theorem dX7_judge_149 : decode cX7_judge 149 = .ok (.getfield 168, 3) := dcB (j := 23) (f := Instr.getfield) sX7_judge_126 rfl op_180 rfl
theorem dX7_judge_152 : decode cX7_judge 152 = .ok (.isub, 1) := dc0 (j := 26) sX7_judge_126 rfl op_100
theorem dX7_judge_153 : decode cX7_judge 153 = .ok (.ireturn, 1) := dc0 (j := 27) sX7_judge_126 rfl op_172
theorem sX7_perform_0 : sgm cX7_perform 0 [42, 27, 182, 0, 171, 61, 28, 153, 0, 5, 28, 172, 42, 180, 0, 43, 42, 180, 0, 10, 42, 180, 0, 29, 27, 50, 182, 0, 151, 42, 180, 0, 43, 180, 0, 158] := by decide +kernel
theorem dX7_perform_0 : decode cX7_perform 0 = .ok (.aload_n 0, 1) := dc0 (j := 0) sX7_perform_0 rfl op_42
theorem dX7_perform_1 : decode cX7_perform 1 = .ok (.iload_n 1, 1) := dc0 (j := 1) sX7_perform_0 rfl op_27
theorem dX7_perform_2 : decode cX7_perform 2 = .ok (.invokevirtual 171, 3) := dcB (j := 2) (f := Instr.invokevirtual) sX7_perform_0 rfl op_182 rfl
theorem dX7_perform_5 : decode cX7_perform 5 = .ok (.istore_n 2, 1) := dc0 (j := 5) sX7_perform_0 rfl op_61
theorem dX7_perform_6 : decode cX7_perform 6 = .ok (.iload_n 2, 1) := dc0 (j := 6) sX7_perform_0 rfl op_28
theorem dX7_perform_7 : decode cX7_perform 7 = .ok (.ifCond .eq 5, 3) := dcTp (j := 7) (v := 5) (f := Instr.ifCond .eq) sX7_perform_0 rfl op_153 rfl rfl
theorem dX7_perform_10 : decode cX7_perform 10 = .ok (.iload_n 2, 1) := dc0 (j := 10) sX7_perform_0 rfl op_28
theorem dX7_perform_11 : decode cX7_perform 11 = .ok (.ireturn, 1) := dc0 (j := 11) sX7_perform_0 rfl op_172
theorem dX7_perform_12 : decode cX7_perform 12 = .ok (.aload_n 0, 1) := dc0 (j := 12) sX7_perform_0 rfl op_42
theorem dX7_perform_13 : decode cX7_perform 13 = .ok (.getfield 43, 3) := dcB (j := 13) (f := Instr.getfield) sX7_perform_0 rfl op_180 rfl
theorem dX7_perform_16 : decode cX7_perform 16 = .ok (.aload_n 0, 1) := dc0 (j := 16) sX7_perform_0 rfl op_42
theorem dX7_perform_17 : decode cX7_perform 17 = .ok (.getfield 10, 3) := dcB (j := 17) (f := Instr.getfield) sX7_perform_0 rfl op_180 rfl
theorem dX7_perform_20 : decode cX7_perform 20 = .ok (.aload_n 0, 1) := dc0 (j := 20) sX7_perform_0 rfl op_42
theorem dX7_perform_21 : decode cX7_perform 21 = .ok (.getfield 29, 3) := dcB (j := 21) (f := Instr.getfield) sX7_perform_0 rfl op_180 rfl
theorem dX7_perform_24 : decode cX7_perform 24 = .ok (.iload_n 1, 1) := dc0 (j := 24) sX7_perform_0 rfl op_27
theorem dX7_perform_25 : decode cX7_perform 25 = .ok (.aaload, 1) := dc0 (j := 25) sX7_perform_0 rfl op_50
theorem dX7_perform_26 : decode cX7_perform 26 = .ok (.invokevirtual 151, 3) := dcB (j := 26) (f := Instr.invokevirtual) sX7_perform_0 rfl op_182 rfl
theorem dX7_perform_29 : decode cX7_perform 29 = .ok (.aload_n 0, 1) := dc0 (j := 29) sX7_perform_0 rfl op_42
theorem dX7_perform_30 : decode cX7_perform 30 = .ok (.getfield 43, 3) := dcB (j := 30) (f := Instr.getfield) sX7_perform_0 rfl op_180 rfl
theorem dX7_perform_33 : decode cX7_perform 33 = .ok (.getfield 158, 3) := dcB (j := 33) (f := Instr.getfield) sX7_perform_0 rfl op_180 rfl
theorem sX7_perform_36 : sgm cX7_perform 36 [172] := by decide +kernel
theorem dX7_perform_36 : decode cX7_perform 36 = .ok (.ireturn, 1) := dc0 (j := 0) sX7_perform_36 rfl op_172
theorem sX7_custom_0 : sgm cX7_custom 0 [42, 27, 17, 0, 200, 182, 0, 174, 61, 28, 153, 0, 7, 28, 167, 0, 11, 42, 27, 3, 2, 3, 182, 0, 178, 172] := by decide +kernel
theorem dX7_custom_0 : decode cX7_custom 0 = .ok (.aload_n 0, 1) := dc0 (j := 0) sX7_custom_0 rfl op_42
theorem dX7_custom_1 : decode cX7_custom 1 = .ok (.iload_n 1, 1) := dc0 (j := 1) sX7_custom_0 rfl op_27
theorem dX7_custom_2 : decode cX7_custom 2 = .ok (.sipush 200, 3) := dcTp (j := 2) (v := 200) (f := Instr.sipush) sX7_custom_0 rfl op_17 rfl rfl
theorem dX7_custom_5 : decode cX7_custom 5 = .ok (.invokevirtual 174, 3) := dcB (j := 5) (f := Instr.invokevirtual) sX7_custom_0 rfl op_182 rfl
theorem dX7_custom_8 : decode cX7_custom 8 = .ok (.istore_n 2, 1) := dc0 (j := 8) sX7_custom_0 rfl op_61
theorem dX7_custom_9 : decode cX7_custom 9 = .ok (.iload_n 2, 1) := dc0 (j := 9) sX7_custom_0 rfl op_28
theorem dX7_custom_10 : decode cX7_custom 10 = .ok (.ifCond .eq 7, 3) := dcTp (j := 10) (v := 7) (f := Instr.ifCond .eq) sX7_custom_0 rfl op_153 rfl rfl
theorem dX7_custom_13 : decode cX7_custom 13 = .ok (.iload_n 2, 1) := dc0 (j := 13) sX7_custom_0 rfl op_28
theorem dX7_custom_14 : decode cX7_custom 14 = .ok (.goto 11, 3) := dcTp (j := 14) (v := 11) (f := Instr.goto) sX7_custom_0 rfl op_167 rfl rfl
theorem dX7_custom_17 : decode cX7_custom 17 = .ok (.aload_n 0, 1) := dc0 (j := 17) sX7_custom_0 rfl op_42
theorem dX7_custom_18 : decode cX7_custom 18 = .ok (.iload_n 1, 1) := dc0 (j := 18) sX7_custom_0 rfl op_27
theorem dX7_custom_19 : decode cX7_custom 19 = .ok (.iconst 0, 1) := dc0 (j := 19) sX7_custom_0 rfl op_3
theorem dX7_custom_20 : decode cX7_custom 20 = .ok (.iconst (-1), 1) := dc0 (j := 20) sX7_custom_0 rfl op_2
theorem dX7_custom_21 : decode cX7_custom 21 = .ok (.iconst 0, 1) := dc0 (j := 21) sX7_custom_0 rfl op_3
theorem dX7_custom_22 : decode cX7_custom 22 = .ok (.invokevirtual 178, 3) := dcB (j := 22) (f := Instr.invokevirtual) sX7_custom_0 rfl op_182 rfl
theorem dX7_custom_25 : decode cX7_custom 25 = .ok (.ireturn, 1) := dc0 (j := 25) sX7_custom_0 rfl op_172
theorem sX7_live_0 : sgm cX7_live 0 [42, 27, 17, 0, 200, 182, 0, 174, 61, 28, 153, 0, 7, 28, 167, 0, 14, 42, 180, 0, 10, 27, 3, 2, 3, 182, 0, 181, 172] := by decide +kernel
theorem dX7_live_0 : decode cX7_live 0 = .ok (.aload_n 0, 1) := dc0 (j := 0) sX7_live_0 rfl op_42
theorem dX7_live_1 : decode cX7_live 1 = .ok (.iload_n 1, 1) := dc0 (j := 1) sX7_live_0 rfl op_27
theorem dX7_live_2 : decode cX7_live 2 = .ok (.sipush 200, 3) := dcTp (j := 2) (v := 200) (f := Instr.sipush) sX7_live_0 rfl op_17 rfl rfl
theorem dX7_live_5 : decode cX7_live 5 = .ok (.invokevirtual 174, 3) := dcB (j := 5) (f := Instr.invokevirtual) sX7_live_0 rfl op_182 rfl
theorem dX7_live_8 : decode cX7_live 8 = .ok (.istore_n 2, 1) := dc0 (j := 8) sX7_live_0 rfl op_61
theorem dX7_live_9 : decode cX7_live 9 = .ok (.iload_n 2, 1) := dc0 (j := 9) sX7_live_0 rfl op_28
theorem dX7_live_10 : decode cX7_live 10 = .ok (.ifCond .eq 7, 3) := dcTp (j := 10) (v := 7) (f := Instr.ifCond .eq) sX7_live_0 rfl op_153 rfl rfl
theorem dX7_live_13 : decode cX7_live 13 = .ok (.iload_n 2, 1) := dc0 (j := 13) sX7_live_0 rfl op_28
theorem dX7_live_14 : decode cX7_live 14 = .ok (.goto 14, 3) := dcTp (j := 14) (v := 14) (f := Instr.goto) sX7_live_0 rfl op_167 rfl rfl
theorem dX7_live_17 : decode cX7_live 17 = .ok (.aload_n 0, 1) := dc0 (j := 17) sX7_live_0 rfl op_42
theorem dX7_live_18 : decode cX7_live 18 = .ok (.getfield 10, 3) := dcB (j := 18) (f := Instr.getfield) sX7_live_0 rfl op_180 rfl
theorem dX7_live_21 : decode cX7_live 21 = .ok (.iload_n 1, 1) := dc0 (j := 21) sX7_live_0 rfl op_27
theorem dX7_live_22 : decode cX7_live 22 = .ok (.iconst 0, 1) := dc0 (j := 22) sX7_live_0 rfl op_3
theorem dX7_live_23 : decode cX7_live 23 = .ok (.iconst (-1), 1) := dc0 (j := 23) sX7_live_0 rfl op_2
theorem dX7_live_24 : decode cX7_live 24 = .ok (.iconst 0, 1) := dc0 (j := 24) sX7_live_0 rfl op_3
theorem dX7_live_25 : decode cX7_live 25 = .ok (.invokevirtual 181, 3) := dcB (j := 25) (f := Instr.invokevirtual) sX7_live_0 rfl op_182 rfl
theorem dX7_live_28 : decode cX7_live 28 = .ok (.ireturn, 1) := dc0 (j := 28) sX7_live_0 rfl op_172
theorem sX7_day_0 : sgm cX7_day 0 [42, 28, 16, 60, 182, 0, 174, 62, 29, 153, 0, 5, 29, 172, 27, 54, 4, 3, 54, 5, 3, 54, 6, 21, 6, 28, 162, 0, 112, 3, 54, 7, 3, 54, 8, 3] := by decide +kernel
theorem dX7_day_0 : decode cX7_day 0 = .ok (.aload_n 0, 1) := dc0 (j := 0) sX7_day_0 rfl op_42
theorem dX7_day_1 : decode cX7_day 1 = .ok (.iload_n 2, 1) := dc0 (j := 1) sX7_day_0 rfl op_28
theorem dX7_day_2 : decode cX7_day 2 = .ok (.bipush 60, 2) := dcSp (j := 2) (a := 60) (f := Instr.bipush) sX7_day_0 rfl op_16 rfl
theorem dX7_day_4 : decode cX7_day 4 = .ok (.invokevirtual 174, 3) := dcB (j := 4) (f := Instr.invokevirtual) sX7_day_0 rfl op_182 rfl
theorem dX7_day_7 : decode cX7_day 7 = .ok (.istore_n 3, 1) := dc0 (j := 7) sX7_day_0 rfl op_62
theorem dX7_day_8 : decode cX7_day 8 = .ok (.iload_n 3, 1) := dc0 (j := 8) sX7_day_0 rfl op_29
theorem dX7_day_9 : decode cX7_day 9 = .ok (.ifCond .eq 5, 3) := dcTp (j := 9) (v := 5) (f := Instr.ifCond .eq) sX7_day_0 rfl op_153 rfl rfl
theorem dX7_day_12 : decode cX7_day 12 = .ok (.iload_n 3, 1) := dc0 (j := 12) sX7_day_0 rfl op_29
theorem dX7_day_13 : decode cX7_day 13 = .ok (.ireturn, 1) := dc0 (j := 13) sX7_day_0 rfl op_172
theorem dX7_day_14 : decode cX7_day 14 = .ok (.iload_n 1, 1) := dc0 (j := 14) sX7_day_0 rfl op_27
theorem dX7_day_15 : decode cX7_day 15 = .ok (.istore 4, 2) := dcA (j := 15) (f := Instr.istore) sX7_day_0 rfl op_54
theorem dX7_day_17 : decode cX7_day 17 = .ok (.iconst 0, 1) := dc0 (j := 17) sX7_day_0 rfl op_3
theorem dX7_day_18 : decode cX7_day 18 = .ok (.istore 5, 2) := dcA (j := 18) (f := Instr.istore) sX7_day_0 rfl op_54
theorem dX7_day_20 : decode cX7_day 20 = .ok (.iconst 0, 1) := dc0 (j := 20) sX7_day_0 rfl op_3
theorem dX7_day_21 : decode cX7_day 21 = .ok (.istore 6, 2) := dcA (j := 21) (f := Instr.istore) sX7_day_0 rfl op_54
theorem dX7_day_23 : decode cX7_day 23 = .ok (.iload 6, 2) := dcA (j := 23) (f := Instr.iload) sX7_day_0 rfl op_21
theorem dX7_day_25 : decode cX7_day 25 = .ok (.iload_n 2, 1) := dc0 (j := 25) sX7_day_0 rfl op_28
theorem dX7_day_26 : decode cX7_day 26 = .ok (.if_icmp .ge 112, 3) := dcTp (j := 26) (v := 112) (f := Instr.if_icmp .ge) sX7_day_0 rfl op_162 rfl rfl
theorem dX7_day_29 : decode cX7_day 29 = .ok (.iconst 0, 1) := dc0 (j := 29) sX7_day_0 rfl op_3
theorem dX7_day_30 : decode cX7_day 30 = .ok (.istore 7, 2) := dcA (j := 30) (f := Instr.istore) sX7_day_0 rfl op_54
theorem dX7_day_32 : decode cX7_day 32 = .ok (.iconst 0, 1) := dc0 (j := 32) sX7_day_0 rfl op_3
theorem dX7_day_33 : decode cX7_day 33 = .ok (.istore 8, 2) := dcA (j := 33) (f := Instr.istore) sX7_day_0 rfl op_54
theorem dX7_day_35 : decode cX7_day 35 = .ok (.iconst 0, 1) := dc0 (j := 35) sX7_day_0 rfl op_3
theorem sX7_day_36 : sgm cX7_day 36 [54, 9, 21, 9, 42, 180, 0, 10, 180, 0, 184, 162, 0, 67, 18, 187, 21, 4, 104, 17, 48, 57, 96, 54, 4, 21, 4, 16, 16, 124, 6, 112, 54, 10, 21, 7] := by decide +kernel
theorem dX7_day_36 : decode cX7_day 36 = .ok (.istore 9, 2) := dcA (j := 0) (f := Instr.istore) sX7_day_36 rfl op_54
theorem dX7_day_38 : decode cX7_day 38 = .ok (.iload 9, 2) := dcA (j := 2) (f := Instr.iload) sX7_day_36 rfl op_21
theorem dX7_day_40 : decode cX7_day 40 = .ok (.aload_n 0, 1) := dc0 (j := 4) sX7_day_36 rfl op_42
theorem dX7_day_41 : decode cX7_day 41 = .ok (.getfield 10, 3) := dcB (j := 5) (f := Instr.getfield) sX7_day_36 rfl op_180 rfl
theorem dX7_day_44 : decode cX7_day 44 = .ok (.getfield 184, 3) := dcB (j := 8) (f := Instr.getfield) sX7_day_36 rfl op_180 rfl
theorem dX7_day_47 : decode cX7_day 47 = .ok (.if_icmp .ge 67, 3) := dcTp (j := 11) (v := 67) (f := Instr.if_icmp .ge) sX7_day_36 rfl op_162 rfl rfl
theorem dX7_day_50 : decode cX7_day 50 = .ok (.ldc 187, 2) := dcA (j := 14) (f := Instr.ldc) sX7_day_36 rfl op_18
theorem dX7_day_52 : decode cX7_day 52 = .ok (.iload 4, 2) := dcA (j := 16) (f := Instr.iload) sX7_day_36 rfl op_21
theorem dX7_day_54 : decode cX7_day 54 = .ok (.imul, 1) := dc0 (j := 18) sX7_day_36 rfl op_104
theorem dX7_day_55 : decode cX7_day 55 = .ok (.sipush 12345, 3) := dcTp (j := 19) (v := 12345) (f := Instr.sipush) sX7_day_36 rfl op_17 rfl rfl
theorem dX7_day_58 : decode cX7_day 58 = .ok (.iadd, 1) := dc0 (j := 22) sX7_day_36 rfl op_96
theorem dX7_day_59 : decode cX7_day 59 = .ok (.istore 4, 2) := dcA (j := 23) (f := Instr.istore) sX7_day_36 rfl op_54
theorem dX7_day_61 : decode cX7_day 61 = .ok (.iload 4, 2) := dcA (j := 25) (f := Instr.iload) sX7_day_36 rfl op_21
theorem dX7_day_63 : decode cX7_day 63 = .ok (.bipush 16, 2) := dcSp (j := 27) (a := 16) (f := Instr.bipush) sX7_day_36 rfl op_16 rfl
theorem dX7_day_65 : decode cX7_day 65 = .ok (.iushr, 1) := dc0 (j := 29) sX7_day_36 rfl op_124
theorem dX7_day_66 : decode cX7_day 66 = .ok (.iconst 3, 1) := dc0 (j := 30) sX7_day_36 rfl op_6
theorem dX7_day_67 : decode cX7_day 67 = .ok (.irem, 1) := dc0 (j := 31) sX7_day_36 rfl op_112
theorem dX7_day_68 : decode cX7_day 68 = .ok (.istore 10, 2) := dcA (j := 32) (f := Instr.istore) sX7_day_36 rfl op_54
theorem dX7_day_70 : decode cX7_day 70 = .ok (.iload 7, 2) := dcA (j := 34) (f := Instr.iload) sX7_day_36 rfl op_21
theorem sX7_day_72 : sgm cX7_day 72 [21, 10, 4, 160, 0, 10, 4, 21, 9, 120, 167, 0, 4, 3, 128, 54, 7, 21, 8, 21, 10, 5, 160, 0, 10, 4, 21, 9, 120, 167, 0, 4, 3, 128, 54, 8] := by decide +kernel
theorem dX7_day_72 : decode cX7_day 72 = .ok (.iload 10, 2) := dcA (j := 0) (f := Instr.iload) sX7_day_72 rfl op_21
theorem dX7_day_74 : decode cX7_day 74 = .ok (.iconst 1, 1) := dc0 (j := 2) sX7_day_72 rfl op_4
theorem dX7_day_75 : decode cX7_day 75 = .ok (.if_icmp .ne 10, 3) := dcTp (j := 3) (v := 10) (f := Instr.if_icmp .ne) sX7_day_72 rfl op_160 rfl rfl
theorem dX7_day_78 : decode cX7_day 78 = .ok (.iconst 1, 1) := dc0 (j := 6) sX7_day_72 rfl op_4
theorem dX7_day_79 : decode cX7_day 79 = .ok (.iload 9, 2) := dcA (j := 7) (f := Instr.iload) sX7_day_72 rfl op_21
theorem dX7_day_81 : decode cX7_day 81 = .ok (.ishl, 1) := dc0 (j := 9) sX7_day_72 rfl op_120
theorem dX7_day_82 : decode cX7_day 82 = .ok (.goto 4, 3) := dcTp (j := 10) (v := 4) (f := Instr.goto) sX7_day_72 rfl op_167 rfl rfl
theorem dX7_day_85 : decode cX7_day 85 = .ok (.iconst 0, 1) := dc0 (j := 13) sX7_day_72 rfl op_3
theorem dX7_day_86 : decode cX7_day 86 = .ok (.ior, 1) := dc0 (j := 14) sX7_day_72 rfl op_128
theorem dX7_day_87 : decode cX7_day 87 = .ok (.istore 7, 2) := dcA (j := 15) (f := Instr.istore) sX7_day_72 rfl op_54
theorem dX7_day_89 : decode cX7_day 89 = .ok (.iload 8, 2) := dcA (j := 17) (f := Instr.iload) sX7_day_72 rfl op_21
theorem dX7_day_91 : decode cX7_day 91 = .ok (.iload 10, 2) := dcA (j := 19) (f := Instr.iload) sX7_day_72 rfl op_21
theorem dX7_day_93 : decode cX7_day 93 = .ok (.iconst 2, 1) := dc0 (j := 21) sX7_day_72 rfl op_5
theorem dX7_day_94 : decode cX7_day 94 = .ok (.if_icmp .ne 10, 3) := dcTp (j := 22) (v := 10) (f := Instr.if_icmp .ne) sX7_day_72 rfl op_160 rfl rfl
theorem dX7_day_97 : decode cX7_day 97 = .ok (.iconst 1, 1) := dc0 (j := 25) sX7_day_72 rfl op_4
theorem dX7_day_98 : decode cX7_day 98 = .ok (.iload 9, 2) := dcA (j := 26) (f := Instr.iload) sX7_day_72 rfl op_21
theorem dX7_day_100 : decode cX7_day 100 = .ok (.ishl, 1) := dc0 (j := 28) sX7_day_72 rfl op_120
theorem dX7_day_101 : decode cX7_day 101 = .ok (.goto 4, 3) := dcTp (j := 29) (v := 4) (f := Instr.goto) sX7_day_72 rfl op_167 rfl rfl
theorem dX7_day_104 : decode cX7_day 104 = .ok (.iconst 0, 1) := dc0 (j := 32) sX7_day_72 rfl op_3
theorem dX7_day_105 : decode cX7_day 105 = .ok (.ior, 1) := dc0 (j := 33) sX7_day_72 rfl op_128
theorem dX7_day_106 : decode cX7_day 106 = .ok (.istore 8, 2) := dcA (j := 34) (f := Instr.istore) sX7_day_72 rfl op_54
theorem sX7_day_108 : sgm cX7_day 108 [132, 9, 1, 167, 255, 183, 21, 5, 42, 180, 0, 10, 21, 7, 21, 8, 2, 3, 182, 0, 140, 96, 54, 5, 132, 6, 1, 167, 255, 144, 21, 5, 172] := by decide +kernel
theorem dX7_day_108 : decode cX7_day 108 = .ok (.iinc 9 1, 3) := dcIp (j := 0) sX7_day_108 rfl op_132 rfl
theorem dX7_day_111 : decode cX7_day 111 = .ok (.goto (-73), 3) := dcTn (j := 3) (v := 73) (f := Instr.goto) sX7_day_108 rfl op_167 rfl rfl rfl
theorem dX7_day_114 : decode cX7_day 114 = .ok (.iload 5, 2) := dcA (j := 6) (f := Instr.iload) sX7_day_108 rfl op_21
theorem dX7_day_116 : decode cX7_day 116 = .ok (.aload_n 0, 1) := dc0 (j := 8) sX7_day_108 rfl op_42
theorem dX7_day_117 : decode cX7_day 117 = .ok (.getfield 10, 3) := dcB (j := 9) (f := Instr.getfield) sX7_day_108 rfl op_180 rfl
theorem dX7_day_120 : decode cX7_day 120 = .ok (.iload 7, 2) := dcA (j := 12) (f := Instr.iload) sX7_day_108 rfl op_21
theorem dX7_day_122 : decode cX7_day 122 = .ok (.iload 8, 2) := dcA (j := 14) (f := Instr.iload) sX7_day_108 rfl op_21
theorem dX7_day_124 : decode cX7_day 124 = .ok (.iconst (-1), 1) := dc0 (j := 16) sX7_day_108 rfl op_2
theorem dX7_day_125 : decode cX7_day 125 = .ok (.iconst 0, 1) := dc0 (j := 17) sX7_day_108 rfl op_3
theorem dX7_day_126 : decode cX7_day 126 = .ok (.invokevirtual 140, 3) := dcB (j := 18) (f := Instr.invokevirtual) sX7_day_108 rfl op_182 rfl
theorem dX7_day_129 : decode cX7_day 129 = .ok (.iadd, 1) := dc0 (j := 21) sX7_day_108 rfl op_96
theorem dX7_day_130 : decode cX7_day 130 = .ok (.istore 5, 2) := dcA (j := 22) (f := Instr.istore) sX7_day_108 rfl op_54
theorem dX7_day_132 : decode cX7_day 132 = .ok (.iinc 6 1, 3) := dcIp (j := 24) sX7_day_108 rfl op_132 rfl
theorem dX7_day_135 : decode cX7_day 135 = .ok (.goto (-112), 3) := dcTn (j := 27) (v := 112) (f := Instr.goto) sX7_day_108 rfl op_167 rfl rfl rfl
theorem dX7_day_138 : decode cX7_day 138 = .ok (.iload 5, 2) := dcA (j := 30) (f := Instr.iload) sX7_day_108 rfl op_21
theorem dX7_day_140 : decode cX7_day 140 = .ok (.ireturn, 1) := dc0 (j := 32) sX7_day_108 rfl op_172
theorem sX7_refusedMinutes_0 : sgm cX7_refusedMinutes 0 [27, 4, 28, 184, 0, 70, 154, 0, 6, 16, 253, 172, 42, 180, 0, 10, 180, 0, 137, 27, 96, 17, 39, 15, 164, 0, 8, 16, 251, 167, 0, 4, 3, 172] := by decide +kernel
theorem dX7_refusedMinutes_0 : decode cX7_refusedMinutes 0 = .ok (.iload_n 1, 1) := dc0 (j := 0) sX7_refusedMinutes_0 rfl op_27
theorem dX7_refusedMinutes_1 : decode cX7_refusedMinutes 1 = .ok (.iconst 1, 1) := dc0 (j := 1) sX7_refusedMinutes_0 rfl op_4
theorem dX7_refusedMinutes_2 : decode cX7_refusedMinutes 2 = .ok (.iload_n 2, 1) := dc0 (j := 2) sX7_refusedMinutes_0 rfl op_28
theorem dX7_refusedMinutes_3 : decode cX7_refusedMinutes 3 = .ok (.invokestatic 70, 3) := dcB (j := 3) (f := Instr.invokestatic) sX7_refusedMinutes_0 rfl op_184 rfl
theorem dX7_refusedMinutes_6 : decode cX7_refusedMinutes 6 = .ok (.ifCond .ne 6, 3) := dcTp (j := 6) (v := 6) (f := Instr.ifCond .ne) sX7_refusedMinutes_0 rfl op_154 rfl rfl
theorem dX7_refusedMinutes_9 : decode cX7_refusedMinutes 9 = .ok (.bipush (-3), 2) := dcSn (j := 9) (v := 3) (f := Instr.bipush) sX7_refusedMinutes_0 rfl op_16 rfl rfl rfl
theorem dX7_refusedMinutes_11 : decode cX7_refusedMinutes 11 = .ok (.ireturn, 1) := dc0 (j := 11) sX7_refusedMinutes_0 rfl op_172
theorem dX7_refusedMinutes_12 : decode cX7_refusedMinutes 12 = .ok (.aload_n 0, 1) := dc0 (j := 12) sX7_refusedMinutes_0 rfl op_42
theorem dX7_refusedMinutes_13 : decode cX7_refusedMinutes 13 = .ok (.getfield 10, 3) := dcB (j := 13) (f := Instr.getfield) sX7_refusedMinutes_0 rfl op_180 rfl
theorem dX7_refusedMinutes_16 : decode cX7_refusedMinutes 16 = .ok (.getfield 137, 3) := dcB (j := 16) (f := Instr.getfield) sX7_refusedMinutes_0 rfl op_180 rfl
theorem dX7_refusedMinutes_19 : decode cX7_refusedMinutes 19 = .ok (.iload_n 1, 1) := dc0 (j := 19) sX7_refusedMinutes_0 rfl op_27
theorem dX7_refusedMinutes_20 : decode cX7_refusedMinutes 20 = .ok (.iadd, 1) := dc0 (j := 20) sX7_refusedMinutes_0 rfl op_96
theorem dX7_refusedMinutes_21 : decode cX7_refusedMinutes 21 = .ok (.sipush 9999, 3) := dcTp (j := 21) (v := 9999) (f := Instr.sipush) sX7_refusedMinutes_0 rfl op_17 rfl rfl
theorem dX7_refusedMinutes_24 : decode cX7_refusedMinutes 24 = .ok (.if_icmp .le 8, 3) := dcTp (j := 24) (v := 8) (f := Instr.if_icmp .le) sX7_refusedMinutes_0 rfl op_164 rfl rfl
theorem dX7_refusedMinutes_27 : decode cX7_refusedMinutes 27 = .ok (.bipush (-5), 2) := dcSn (j := 27) (v := 5) (f := Instr.bipush) sX7_refusedMinutes_0 rfl op_16 rfl rfl rfl
theorem dX7_refusedMinutes_29 : decode cX7_refusedMinutes 29 = .ok (.goto 4, 3) := dcTp (j := 29) (v := 4) (f := Instr.goto) sX7_refusedMinutes_0 rfl op_167 rfl rfl
theorem dX7_refusedMinutes_32 : decode cX7_refusedMinutes 32 = .ok (.iconst 0, 1) := dc0 (j := 32) sX7_refusedMinutes_0 rfl op_3
theorem dX7_refusedMinutes_33 : decode cX7_refusedMinutes 33 = .ok (.ireturn, 1) := dc0 (j := 33) sX7_refusedMinutes_0 rfl op_172
theorem sX7_doneByCustom_0 : sgm cX7_doneByCustom 0 [42, 180, 0, 16, 42, 180, 0, 10, 182, 0, 81, 42, 180, 0, 16, 27, 28, 29, 21, 4, 182, 0, 181, 87, 42, 180, 0, 16, 182, 0, 164, 172] := by decide +kernel
theorem dX7_doneByCustom_0 : decode cX7_doneByCustom 0 = .ok (.aload_n 0, 1) := dc0 (j := 0) sX7_doneByCustom_0 rfl op_42
theorem dX7_doneByCustom_1 : decode cX7_doneByCustom 1 = .ok (.getfield 16, 3) := dcB (j := 1) (f := Instr.getfield) sX7_doneByCustom_0 rfl op_180 rfl
theorem dX7_doneByCustom_4 : decode cX7_doneByCustom 4 = .ok (.aload_n 0, 1) := dc0 (j := 4) sX7_doneByCustom_0 rfl op_42
theorem dX7_doneByCustom_5 : decode cX7_doneByCustom 5 = .ok (.getfield 10, 3) := dcB (j := 5) (f := Instr.getfield) sX7_doneByCustom_0 rfl op_180 rfl
theorem dX7_doneByCustom_8 : decode cX7_doneByCustom 8 = .ok (.invokevirtual 81, 3) := dcB (j := 8) (f := Instr.invokevirtual) sX7_doneByCustom_0 rfl op_182 rfl
theorem dX7_doneByCustom_11 : decode cX7_doneByCustom 11 = .ok (.aload_n 0, 1) := dc0 (j := 11) sX7_doneByCustom_0 rfl op_42
theorem dX7_doneByCustom_12 : decode cX7_doneByCustom 12 = .ok (.getfield 16, 3) := dcB (j := 12) (f := Instr.getfield) sX7_doneByCustom_0 rfl op_180 rfl
theorem dX7_doneByCustom_15 : decode cX7_doneByCustom 15 = .ok (.iload_n 1, 1) := dc0 (j := 15) sX7_doneByCustom_0 rfl op_27
theorem dX7_doneByCustom_16 : decode cX7_doneByCustom 16 = .ok (.iload_n 2, 1) := dc0 (j := 16) sX7_doneByCustom_0 rfl op_28
theorem dX7_doneByCustom_17 : decode cX7_doneByCustom 17 = .ok (.iload_n 3, 1) := dc0 (j := 17) sX7_doneByCustom_0 rfl op_29
theorem dX7_doneByCustom_18 : decode cX7_doneByCustom 18 = .ok (.iload 4, 2) := dcA (j := 18) (f := Instr.iload) sX7_doneByCustom_0 rfl op_21
theorem dX7_doneByCustom_20 : decode cX7_doneByCustom 20 = .ok (.invokevirtual 181, 3) := dcB (j := 20) (f := Instr.invokevirtual) sX7_doneByCustom_0 rfl op_182 rfl
theorem dX7_doneByCustom_23 : decode cX7_doneByCustom 23 = .ok (.pop, 1) := dc0 (j := 23) sX7_doneByCustom_0 rfl op_87
theorem dX7_doneByCustom_24 : decode cX7_doneByCustom 24 = .ok (.aload_n 0, 1) := dc0 (j := 24) sX7_doneByCustom_0 rfl op_42
theorem dX7_doneByCustom_25 : decode cX7_doneByCustom 25 = .ok (.getfield 16, 3) := dcB (j := 25) (f := Instr.getfield) sX7_doneByCustom_0 rfl op_180 rfl
theorem dX7_doneByCustom_28 : decode cX7_doneByCustom 28 = .ok (.invokevirtual 164, 3) := dcB (j := 28) (f := Instr.invokevirtual) sX7_doneByCustom_0 rfl op_182 rfl
theorem dX7_doneByCustom_31 : decode cX7_doneByCustom 31 = .ok (.ireturn, 1) := dc0 (j := 31) sX7_doneByCustom_0 rfl op_172
theorem sX7_ring_0 : sgm cX7_ring 0 [42, 180, 0, 10, 27, 182, 0, 91, 153, 0, 21, 42, 180, 0, 10, 42, 180, 0, 10, 27, 182, 0, 188, 182, 0, 191, 167, 0, 5, 16, 254, 172] := by decide +kernel
theorem dX7_ring_0 : decode cX7_ring 0 = .ok (.aload_n 0, 1) := dc0 (j := 0) sX7_ring_0 rfl op_42
theorem dX7_ring_1 : decode cX7_ring 1 = .ok (.getfield 10, 3) := dcB (j := 1) (f := Instr.getfield) sX7_ring_0 rfl op_180 rfl
theorem dX7_ring_4 : decode cX7_ring 4 = .ok (.iload_n 1, 1) := dc0 (j := 4) sX7_ring_0 rfl op_27
theorem dX7_ring_5 : decode cX7_ring 5 = .ok (.invokevirtual 91, 3) := dcB (j := 5) (f := Instr.invokevirtual) sX7_ring_0 rfl op_182 rfl
theorem dX7_ring_8 : decode cX7_ring 8 = .ok (.ifCond .eq 21, 3) := dcTp (j := 8) (v := 21) (f := Instr.ifCond .eq) sX7_ring_0 rfl op_153 rfl rfl
theorem dX7_ring_11 : decode cX7_ring 11 = .ok (.aload_n 0, 1) := dc0 (j := 11) sX7_ring_0 rfl op_42
theorem dX7_ring_12 : decode cX7_ring 12 = .ok (.getfield 10, 3) := dcB (j := 12) (f := Instr.getfield) sX7_ring_0 rfl op_180 rfl
theorem dX7_ring_15 : decode cX7_ring 15 = .ok (.aload_n 0, 1) := dc0 (j := 15) sX7_ring_0 rfl op_42
theorem dX7_ring_16 : decode cX7_ring 16 = .ok (.getfield 10, 3) := dcB (j := 16) (f := Instr.getfield) sX7_ring_0 rfl op_180 rfl
theorem dX7_ring_19 : decode cX7_ring 19 = .ok (.iload_n 1, 1) := dc0 (j := 19) sX7_ring_0 rfl op_27
theorem dX7_ring_20 : decode cX7_ring 20 = .ok (.invokevirtual 188, 3) := dcB (j := 20) (f := Instr.invokevirtual) sX7_ring_0 rfl op_182 rfl
theorem dX7_ring_23 : decode cX7_ring 23 = .ok (.invokevirtual 191, 3) := dcB (j := 23) (f := Instr.invokevirtual) sX7_ring_0 rfl op_182 rfl
theorem dX7_ring_26 : decode cX7_ring 26 = .ok (.goto 5, 3) := dcTp (j := 26) (v := 5) (f := Instr.goto) sX7_ring_0 rfl op_167 rfl rfl
theorem dX7_ring_29 : decode cX7_ring 29 = .ok (.bipush (-2), 2) := dcSn (j := 29) (v := 2) (f := Instr.bipush) sX7_ring_0 rfl op_16 rfl rfl rfl
theorem dX7_ring_31 : decode cX7_ring 31 = .ok (.ireturn, 1) := dc0 (j := 31) sX7_ring_0 rfl op_172
theorem sX7_rings_0 : sgm cX7_rings 0 [3, 60, 3, 61, 28, 42, 180, 0, 10, 180, 0, 184, 162, 0, 23, 42, 180, 0, 10, 28, 182, 0, 194, 153, 0, 6, 132, 1, 1, 132, 2, 1, 167, 255, 228, 27] := by decide +kernel
theorem dX7_rings_0 : decode cX7_rings 0 = .ok (.iconst 0, 1) := dc0 (j := 0) sX7_rings_0 rfl op_3
theorem dX7_rings_1 : decode cX7_rings 1 = .ok (.istore_n 1, 1) := dc0 (j := 1) sX7_rings_0 rfl op_60
theorem dX7_rings_2 : decode cX7_rings 2 = .ok (.iconst 0, 1) := dc0 (j := 2) sX7_rings_0 rfl op_3
theorem dX7_rings_3 : decode cX7_rings 3 = .ok (.istore_n 2, 1) := dc0 (j := 3) sX7_rings_0 rfl op_61
theorem dX7_rings_4 : decode cX7_rings 4 = .ok (.iload_n 2, 1) := dc0 (j := 4) sX7_rings_0 rfl op_28
theorem dX7_rings_5 : decode cX7_rings 5 = .ok (.aload_n 0, 1) := dc0 (j := 5) sX7_rings_0 rfl op_42
theorem dX7_rings_6 : decode cX7_rings 6 = .ok (.getfield 10, 3) := dcB (j := 6) (f := Instr.getfield) sX7_rings_0 rfl op_180 rfl
theorem dX7_rings_9 : decode cX7_rings 9 = .ok (.getfield 184, 3) := dcB (j := 9) (f := Instr.getfield) sX7_rings_0 rfl op_180 rfl
theorem dX7_rings_12 : decode cX7_rings 12 = .ok (.if_icmp .ge 23, 3) := dcTp (j := 12) (v := 23) (f := Instr.if_icmp .ge) sX7_rings_0 rfl op_162 rfl rfl
theorem dX7_rings_15 : decode cX7_rings 15 = .ok (.aload_n 0, 1) := dc0 (j := 15) sX7_rings_0 rfl op_42
theorem dX7_rings_16 : decode cX7_rings 16 = .ok (.getfield 10, 3) := dcB (j := 16) (f := Instr.getfield) sX7_rings_0 rfl op_180 rfl
theorem dX7_rings_19 : decode cX7_rings 19 = .ok (.iload_n 2, 1) := dc0 (j := 19) sX7_rings_0 rfl op_28
theorem dX7_rings_20 : decode cX7_rings 20 = .ok (.invokevirtual 194, 3) := dcB (j := 20) (f := Instr.invokevirtual) sX7_rings_0 rfl op_182 rfl
theorem dX7_rings_23 : decode cX7_rings 23 = .ok (.ifCond .eq 6, 3) := dcTp (j := 23) (v := 6) (f := Instr.ifCond .eq) sX7_rings_0 rfl op_153 rfl rfl
theorem dX7_rings_26 : decode cX7_rings 26 = .ok (.iinc 1 1, 3) := dcIp (j := 26) sX7_rings_0 rfl op_132 rfl
theorem dX7_rings_29 : decode cX7_rings 29 = .ok (.iinc 2 1, 3) := dcIp (j := 29) sX7_rings_0 rfl op_132 rfl
theorem dX7_rings_32 : decode cX7_rings 32 = .ok (.goto (-28), 3) := dcTn (j := 32) (v := 28) (f := Instr.goto) sX7_rings_0 rfl op_167 rfl rfl rfl
theorem dX7_rings_35 : decode cX7_rings 35 = .ok (.iload_n 1, 1) := dc0 (j := 35) sX7_rings_0 rfl op_27
theorem sX7_rings_36 : sgm cX7_rings 36 [172] := by decide +kernel
theorem dX7_rings_36 : decode cX7_rings 36 = .ok (.ireturn, 1) := dc0 (j := 0) sX7_rings_36 rfl op_172
theorem sX7_steps_0 : sgm cX7_steps 0 [42, 180, 0, 10, 27, 182, 0, 91, 153, 0, 14, 42, 180, 0, 10, 28, 182, 0, 91, 154, 0, 6, 16, 254, 172, 27, 62, 3, 54, 4, 21, 4, 42, 180, 0, 10] := by decide +kernel
theorem dX7_steps_0 : decode cX7_steps 0 = .ok (.aload_n 0, 1) := dc0 (j := 0) sX7_steps_0 rfl op_42
theorem dX7_steps_1 : decode cX7_steps 1 = .ok (.getfield 10, 3) := dcB (j := 1) (f := Instr.getfield) sX7_steps_0 rfl op_180 rfl
theorem dX7_steps_4 : decode cX7_steps 4 = .ok (.iload_n 1, 1) := dc0 (j := 4) sX7_steps_0 rfl op_27
theorem dX7_steps_5 : decode cX7_steps 5 = .ok (.invokevirtual 91, 3) := dcB (j := 5) (f := Instr.invokevirtual) sX7_steps_0 rfl op_182 rfl
theorem dX7_steps_8 : decode cX7_steps 8 = .ok (.ifCond .eq 14, 3) := dcTp (j := 8) (v := 14) (f := Instr.ifCond .eq) sX7_steps_0 rfl op_153 rfl rfl
theorem dX7_steps_11 : decode cX7_steps 11 = .ok (.aload_n 0, 1) := dc0 (j := 11) sX7_steps_0 rfl op_42
theorem dX7_steps_12 : decode cX7_steps 12 = .ok (.getfield 10, 3) := dcB (j := 12) (f := Instr.getfield) sX7_steps_0 rfl op_180 rfl
theorem dX7_steps_15 : decode cX7_steps 15 = .ok (.iload_n 2, 1) := dc0 (j := 15) sX7_steps_0 rfl op_28
theorem dX7_steps_16 : decode cX7_steps 16 = .ok (.invokevirtual 91, 3) := dcB (j := 16) (f := Instr.invokevirtual) sX7_steps_0 rfl op_182 rfl
theorem dX7_steps_19 : decode cX7_steps 19 = .ok (.ifCond .ne 6, 3) := dcTp (j := 19) (v := 6) (f := Instr.ifCond .ne) sX7_steps_0 rfl op_154 rfl rfl
theorem dX7_steps_22 : decode cX7_steps 22 = .ok (.bipush (-2), 2) := dcSn (j := 22) (v := 2) (f := Instr.bipush) sX7_steps_0 rfl op_16 rfl rfl rfl
theorem dX7_steps_24 : decode cX7_steps 24 = .ok (.ireturn, 1) := dc0 (j := 24) sX7_steps_0 rfl op_172
theorem dX7_steps_25 : decode cX7_steps 25 = .ok (.iload_n 1, 1) := dc0 (j := 25) sX7_steps_0 rfl op_27
theorem dX7_steps_26 : decode cX7_steps 26 = .ok (.istore_n 3, 1) := dc0 (j := 26) sX7_steps_0 rfl op_62
theorem dX7_steps_27 : decode cX7_steps 27 = .ok (.iconst 0, 1) := dc0 (j := 27) sX7_steps_0 rfl op_3
theorem dX7_steps_28 : decode cX7_steps 28 = .ok (.istore 4, 2) := dcA (j := 28) (f := Instr.istore) sX7_steps_0 rfl op_54
theorem dX7_steps_30 : decode cX7_steps 30 = .ok (.iload 4, 2) := dcA (j := 30) (f := Instr.iload) sX7_steps_0 rfl op_21
theorem dX7_steps_32 : decode cX7_steps 32 = .ok (.aload_n 0, 1) := dc0 (j := 32) sX7_steps_0 rfl op_42
theorem dX7_steps_33 : decode cX7_steps 33 = .ok (.getfield 10, 3) := dcB (j := 33) (f := Instr.getfield) sX7_steps_0 rfl op_180 rfl
theorem sX7_steps_36 : sgm cX7_steps 36 [180, 0, 184, 162, 0, 27, 29, 28, 160, 0, 6, 21, 4, 172, 42, 180, 0, 10, 180, 0, 120, 29, 46, 62, 132, 4, 1, 167, 255, 223, 2, 172] := by decide +kernel
theorem dX7_steps_36 : decode cX7_steps 36 = .ok (.getfield 184, 3) := dcB (j := 0) (f := Instr.getfield) sX7_steps_36 rfl op_180 rfl
theorem dX7_steps_39 : decode cX7_steps 39 = .ok (.if_icmp .ge 27, 3) := dcTp (j := 3) (v := 27) (f := Instr.if_icmp .ge) sX7_steps_36 rfl op_162 rfl rfl
theorem dX7_steps_42 : decode cX7_steps 42 = .ok (.iload_n 3, 1) := dc0 (j := 6) sX7_steps_36 rfl op_29
theorem dX7_steps_43 : decode cX7_steps 43 = .ok (.iload_n 2, 1) := dc0 (j := 7) sX7_steps_36 rfl op_28
theorem dX7_steps_44 : decode cX7_steps 44 = .ok (.if_icmp .ne 6, 3) := dcTp (j := 8) (v := 6) (f := Instr.if_icmp .ne) sX7_steps_36 rfl op_160 rfl rfl
theorem dX7_steps_47 : decode cX7_steps 47 = .ok (.iload 4, 2) := dcA (j := 11) (f := Instr.iload) sX7_steps_36 rfl op_21
theorem dX7_steps_49 : decode cX7_steps 49 = .ok (.ireturn, 1) := dc0 (j := 13) sX7_steps_36 rfl op_172
theorem dX7_steps_50 : decode cX7_steps 50 = .ok (.aload_n 0, 1) := dc0 (j := 14) sX7_steps_36 rfl op_42
theorem dX7_steps_51 : decode cX7_steps 51 = .ok (.getfield 10, 3) := dcB (j := 15) (f := Instr.getfield) sX7_steps_36 rfl op_180 rfl
theorem dX7_steps_54 : decode cX7_steps 54 = .ok (.getfield 120, 3) := dcB (j := 18) (f := Instr.getfield) sX7_steps_36 rfl op_180 rfl
theorem dX7_steps_57 : decode cX7_steps 57 = .ok (.iload_n 3, 1) := dc0 (j := 21) sX7_steps_36 rfl op_29
theorem dX7_steps_58 : decode cX7_steps 58 = .ok (.iaload, 1) := dc0 (j := 22) sX7_steps_36 rfl op_46
theorem dX7_steps_59 : decode cX7_steps 59 = .ok (.istore_n 3, 1) := dc0 (j := 23) sX7_steps_36 rfl op_62
theorem dX7_steps_60 : decode cX7_steps 60 = .ok (.iinc 4 1, 3) := dcIp (j := 24) sX7_steps_36 rfl op_132 rfl
theorem dX7_steps_63 : decode cX7_steps 63 = .ok (.goto (-33), 3) := dcTn (j := 27) (v := 33) (f := Instr.goto) sX7_steps_36 rfl op_167 rfl rfl rfl
theorem dX7_steps_66 : decode cX7_steps 66 = .ok (.iconst (-1), 1) := dc0 (j := 30) sX7_steps_36 rfl op_2
theorem dX7_steps_67 : decode cX7_steps 67 = .ok (.ireturn, 1) := dc0 (j := 31) sX7_steps_36 rfl op_172
theorem sX7_unblown_0 : sgm cX7_unblown 0 [3, 60, 3, 61, 28, 42, 180, 0, 10, 180, 0, 184, 162, 0, 26, 42, 180, 0, 10, 28, 182, 0, 126, 154, 0, 9, 27, 4, 28, 120, 128, 60, 132, 2, 1] := by decide +kernel
theorem dX7_unblown_0 : decode cX7_unblown 0 = .ok (.iconst 0, 1) := dc0 (j := 0) sX7_unblown_0 rfl op_3
theorem dX7_unblown_1 : decode cX7_unblown 1 = .ok (.istore_n 1, 1) := dc0 (j := 1) sX7_unblown_0 rfl op_60
theorem dX7_unblown_2 : decode cX7_unblown 2 = .ok (.iconst 0, 1) := dc0 (j := 2) sX7_unblown_0 rfl op_3
theorem dX7_unblown_3 : decode cX7_unblown 3 = .ok (.istore_n 2, 1) := dc0 (j := 3) sX7_unblown_0 rfl op_61
theorem dX7_unblown_4 : decode cX7_unblown 4 = .ok (.iload_n 2, 1) := dc0 (j := 4) sX7_unblown_0 rfl op_28
theorem dX7_unblown_5 : decode cX7_unblown 5 = .ok (.aload_n 0, 1) := dc0 (j := 5) sX7_unblown_0 rfl op_42
theorem dX7_unblown_6 : decode cX7_unblown 6 = .ok (.getfield 10, 3) := dcB (j := 6) (f := Instr.getfield) sX7_unblown_0 rfl op_180 rfl
theorem dX7_unblown_9 : decode cX7_unblown 9 = .ok (.getfield 184, 3) := dcB (j := 9) (f := Instr.getfield) sX7_unblown_0 rfl op_180 rfl
theorem dX7_unblown_12 : decode cX7_unblown 12 = .ok (.if_icmp .ge 26, 3) := dcTp (j := 12) (v := 26) (f := Instr.if_icmp .ge) sX7_unblown_0 rfl op_162 rfl rfl
theorem dX7_unblown_15 : decode cX7_unblown 15 = .ok (.aload_n 0, 1) := dc0 (j := 15) sX7_unblown_0 rfl op_42
theorem dX7_unblown_16 : decode cX7_unblown 16 = .ok (.getfield 10, 3) := dcB (j := 16) (f := Instr.getfield) sX7_unblown_0 rfl op_180 rfl
theorem dX7_unblown_19 : decode cX7_unblown 19 = .ok (.iload_n 2, 1) := dc0 (j := 19) sX7_unblown_0 rfl op_28
theorem dX7_unblown_20 : decode cX7_unblown 20 = .ok (.invokevirtual 126, 3) := dcB (j := 20) (f := Instr.invokevirtual) sX7_unblown_0 rfl op_182 rfl
theorem dX7_unblown_23 : decode cX7_unblown 23 = .ok (.ifCond .ne 9, 3) := dcTp (j := 23) (v := 9) (f := Instr.ifCond .ne) sX7_unblown_0 rfl op_154 rfl rfl
theorem dX7_unblown_26 : decode cX7_unblown 26 = .ok (.iload_n 1, 1) := dc0 (j := 26) sX7_unblown_0 rfl op_27
theorem dX7_unblown_27 : decode cX7_unblown 27 = .ok (.iconst 1, 1) := dc0 (j := 27) sX7_unblown_0 rfl op_4
theorem dX7_unblown_28 : decode cX7_unblown 28 = .ok (.iload_n 2, 1) := dc0 (j := 28) sX7_unblown_0 rfl op_28
theorem dX7_unblown_29 : decode cX7_unblown 29 = .ok (.ishl, 1) := dc0 (j := 29) sX7_unblown_0 rfl op_120
theorem dX7_unblown_30 : decode cX7_unblown 30 = .ok (.ior, 1) := dc0 (j := 30) sX7_unblown_0 rfl op_128
theorem dX7_unblown_31 : decode cX7_unblown 31 = .ok (.istore_n 1, 1) := dc0 (j := 31) sX7_unblown_0 rfl op_60
theorem dX7_unblown_32 : decode cX7_unblown 32 = .ok (.iinc 2 1, 3) := dcIp (j := 32) sX7_unblown_0 rfl op_132 rfl
theorem sX7_unblown_35 : sgm cX7_unblown 35 [167, 255, 225, 27, 172] := by decide +kernel
theorem dX7_unblown_35 : decode cX7_unblown 35 = .ok (.goto (-31), 3) := dcTn (j := 0) (v := 31) (f := Instr.goto) sX7_unblown_35 rfl op_167 rfl rfl rfl
theorem dX7_unblown_38 : decode cX7_unblown 38 = .ok (.iload_n 1, 1) := dc0 (j := 3) sX7_unblown_35 rfl op_27
theorem dX7_unblown_39 : decode cX7_unblown 39 = .ok (.ireturn, 1) := dc0 (j := 4) sX7_unblown_35 rfl op_172
theorem sX7_holds_0 : sgm cX7_holds 0 [27, 184, 0, 144, 153, 0, 12, 29, 3, 4, 184, 0, 70, 154, 0, 6, 16, 254, 172, 42, 27, 28, 182, 0, 197, 54, 4, 21, 4, 153, 0, 6, 21, 4, 172, 42] := by decide +kernel
theorem dX7_holds_0 : decode cX7_holds 0 = .ok (.iload_n 1, 1) := dc0 (j := 0) sX7_holds_0 rfl op_27
theorem dX7_holds_1 : decode cX7_holds 1 = .ok (.invokestatic 144, 3) := dcB (j := 1) (f := Instr.invokestatic) sX7_holds_0 rfl op_184 rfl
theorem dX7_holds_4 : decode cX7_holds 4 = .ok (.ifCond .eq 12, 3) := dcTp (j := 4) (v := 12) (f := Instr.ifCond .eq) sX7_holds_0 rfl op_153 rfl rfl
theorem dX7_holds_7 : decode cX7_holds 7 = .ok (.iload_n 3, 1) := dc0 (j := 7) sX7_holds_0 rfl op_29
theorem dX7_holds_8 : decode cX7_holds 8 = .ok (.iconst 0, 1) := dc0 (j := 8) sX7_holds_0 rfl op_3
theorem dX7_holds_9 : decode cX7_holds 9 = .ok (.iconst 1, 1) := dc0 (j := 9) sX7_holds_0 rfl op_4
theorem dX7_holds_10 : decode cX7_holds 10 = .ok (.invokestatic 70, 3) := dcB (j := 10) (f := Instr.invokestatic) sX7_holds_0 rfl op_184 rfl
theorem dX7_holds_13 : decode cX7_holds 13 = .ok (.ifCond .ne 6, 3) := dcTp (j := 13) (v := 6) (f := Instr.ifCond .ne) sX7_holds_0 rfl op_154 rfl rfl
theorem dX7_holds_16 : decode cX7_holds 16 = .ok (.bipush (-2), 2) := dcSn (j := 16) (v := 2) (f := Instr.bipush) sX7_holds_0 rfl op_16 rfl rfl rfl
theorem dX7_holds_18 : decode cX7_holds 18 = .ok (.ireturn, 1) := dc0 (j := 18) sX7_holds_0 rfl op_172
theorem dX7_holds_19 : decode cX7_holds 19 = .ok (.aload_n 0, 1) := dc0 (j := 19) sX7_holds_0 rfl op_42
theorem dX7_holds_20 : decode cX7_holds 20 = .ok (.iload_n 1, 1) := dc0 (j := 20) sX7_holds_0 rfl op_27
theorem dX7_holds_21 : decode cX7_holds 21 = .ok (.iload_n 2, 1) := dc0 (j := 21) sX7_holds_0 rfl op_28
theorem dX7_holds_22 : decode cX7_holds 22 = .ok (.invokevirtual 197, 3) := dcB (j := 22) (f := Instr.invokevirtual) sX7_holds_0 rfl op_182 rfl
theorem dX7_holds_25 : decode cX7_holds 25 = .ok (.istore 4, 2) := dcA (j := 25) (f := Instr.istore) sX7_holds_0 rfl op_54
theorem dX7_holds_27 : decode cX7_holds 27 = .ok (.iload 4, 2) := dcA (j := 27) (f := Instr.iload) sX7_holds_0 rfl op_21
theorem dX7_holds_29 : decode cX7_holds 29 = .ok (.ifCond .eq 6, 3) := dcTp (j := 29) (v := 6) (f := Instr.ifCond .eq) sX7_holds_0 rfl op_153 rfl rfl
theorem dX7_holds_32 : decode cX7_holds 32 = .ok (.iload 4, 2) := dcA (j := 32) (f := Instr.iload) sX7_holds_0 rfl op_21
theorem dX7_holds_34 : decode cX7_holds 34 = .ok (.ireturn, 1) := dc0 (j := 34) sX7_holds_0 rfl op_172
theorem dX7_holds_35 : decode cX7_holds 35 = .ok (.aload_n 0, 1) := dc0 (j := 35) sX7_holds_0 rfl op_42
theorem sX7_holds_36 : sgm cX7_holds 36 [180, 0, 50, 42, 180, 0, 29, 27, 50, 28, 182, 0, 200, 42, 180, 0, 50, 42, 180, 0, 10, 182, 0, 204, 29, 154, 0, 13, 42, 180, 0, 50, 180, 0, 207] := by decide +kernel
theorem dX7_holds_36 : decode cX7_holds 36 = .ok (.getfield 50, 3) := dcB (j := 0) (f := Instr.getfield) sX7_holds_36 rfl op_180 rfl
theorem dX7_holds_39 : decode cX7_holds 39 = .ok (.aload_n 0, 1) := dc0 (j := 3) sX7_holds_36 rfl op_42
theorem dX7_holds_40 : decode cX7_holds 40 = .ok (.getfield 29, 3) := dcB (j := 4) (f := Instr.getfield) sX7_holds_36 rfl op_180 rfl
theorem dX7_holds_43 : decode cX7_holds 43 = .ok (.iload_n 1, 1) := dc0 (j := 7) sX7_holds_36 rfl op_27
theorem dX7_holds_44 : decode cX7_holds 44 = .ok (.aaload, 1) := dc0 (j := 8) sX7_holds_36 rfl op_50
theorem dX7_holds_45 : decode cX7_holds 45 = .ok (.iload_n 2, 1) := dc0 (j := 9) sX7_holds_36 rfl op_28
theorem dX7_holds_46 : decode cX7_holds 46 = .ok (.invokevirtual 200, 3) := dcB (j := 10) (f := Instr.invokevirtual) sX7_holds_36 rfl op_182 rfl
theorem dX7_holds_49 : decode cX7_holds 49 = .ok (.aload_n 0, 1) := dc0 (j := 13) sX7_holds_36 rfl op_42
theorem dX7_holds_50 : decode cX7_holds 50 = .ok (.getfield 50, 3) := dcB (j := 14) (f := Instr.getfield) sX7_holds_36 rfl op_180 rfl
theorem dX7_holds_53 : decode cX7_holds 53 = .ok (.aload_n 0, 1) := dc0 (j := 17) sX7_holds_36 rfl op_42
theorem dX7_holds_54 : decode cX7_holds 54 = .ok (.getfield 10, 3) := dcB (j := 18) (f := Instr.getfield) sX7_holds_36 rfl op_180 rfl
theorem dX7_holds_57 : decode cX7_holds 57 = .ok (.invokevirtual 204, 3) := dcB (j := 21) (f := Instr.invokevirtual) sX7_holds_36 rfl op_182 rfl
theorem dX7_holds_60 : decode cX7_holds 60 = .ok (.iload_n 3, 1) := dc0 (j := 24) sX7_holds_36 rfl op_29
theorem dX7_holds_61 : decode cX7_holds 61 = .ok (.ifCond .ne 13, 3) := dcTp (j := 25) (v := 13) (f := Instr.ifCond .ne) sX7_holds_36 rfl op_154 rfl rfl
theorem dX7_holds_64 : decode cX7_holds 64 = .ok (.aload_n 0, 1) := dc0 (j := 28) sX7_holds_36 rfl op_42
theorem dX7_holds_65 : decode cX7_holds 65 = .ok (.getfield 50, 3) := dcB (j := 29) (f := Instr.getfield) sX7_holds_36 rfl op_180 rfl
theorem dX7_holds_68 : decode cX7_holds 68 = .ok (.getfield 207, 3) := dcB (j := 32) (f := Instr.getfield) sX7_holds_36 rfl op_180 rfl
theorem sX7_holds_71 : sgm cX7_holds 71 [167, 0, 10, 42, 180, 0, 50, 180, 0, 210, 172] := by decide +kernel
theorem dX7_holds_71 : decode cX7_holds 71 = .ok (.goto 10, 3) := dcTp (j := 0) (v := 10) (f := Instr.goto) sX7_holds_71 rfl op_167 rfl rfl
theorem dX7_holds_74 : decode cX7_holds 74 = .ok (.aload_n 0, 1) := dc0 (j := 3) sX7_holds_71 rfl op_42
theorem dX7_holds_75 : decode cX7_holds 75 = .ok (.getfield 50, 3) := dcB (j := 4) (f := Instr.getfield) sX7_holds_71 rfl op_180 rfl
theorem dX7_holds_78 : decode cX7_holds 78 = .ok (.getfield 210, 3) := dcB (j := 7) (f := Instr.getfield) sX7_holds_71 rfl op_180 rfl
theorem dX7_holds_81 : decode cX7_holds 81 = .ok (.ireturn, 1) := dc0 (j := 10) sX7_holds_71 rfl op_172
theorem sX7_even_0 : sgm cX7_even 0 [42, 27, 28, 182, 0, 197, 62, 29, 153, 0, 5, 29, 172, 42, 180, 0, 50, 42, 180, 0, 29, 27, 50, 28, 182, 0, 200, 42, 180, 0, 50, 42, 180, 0, 10] := by decide +kernel
theorem dX7_even_0 : decode cX7_even 0 = .ok (.aload_n 0, 1) := dc0 (j := 0) sX7_even_0 rfl op_42
theorem dX7_even_1 : decode cX7_even 1 = .ok (.iload_n 1, 1) := dc0 (j := 1) sX7_even_0 rfl op_27
theorem dX7_even_2 : decode cX7_even 2 = .ok (.iload_n 2, 1) := dc0 (j := 2) sX7_even_0 rfl op_28
theorem dX7_even_3 : decode cX7_even 3 = .ok (.invokevirtual 197, 3) := dcB (j := 3) (f := Instr.invokevirtual) sX7_even_0 rfl op_182 rfl
theorem dX7_even_6 : decode cX7_even 6 = .ok (.istore_n 3, 1) := dc0 (j := 6) sX7_even_0 rfl op_62
theorem dX7_even_7 : decode cX7_even 7 = .ok (.iload_n 3, 1) := dc0 (j := 7) sX7_even_0 rfl op_29
theorem dX7_even_8 : decode cX7_even 8 = .ok (.ifCond .eq 5, 3) := dcTp (j := 8) (v := 5) (f := Instr.ifCond .eq) sX7_even_0 rfl op_153 rfl rfl
theorem dX7_even_11 : decode cX7_even 11 = .ok (.iload_n 3, 1) := dc0 (j := 11) sX7_even_0 rfl op_29
theorem dX7_even_12 : decode cX7_even 12 = .ok (.ireturn, 1) := dc0 (j := 12) sX7_even_0 rfl op_172
theorem dX7_even_13 : decode cX7_even 13 = .ok (.aload_n 0, 1) := dc0 (j := 13) sX7_even_0 rfl op_42
theorem dX7_even_14 : decode cX7_even 14 = .ok (.getfield 50, 3) := dcB (j := 14) (f := Instr.getfield) sX7_even_0 rfl op_180 rfl
theorem dX7_even_17 : decode cX7_even 17 = .ok (.aload_n 0, 1) := dc0 (j := 17) sX7_even_0 rfl op_42
theorem dX7_even_18 : decode cX7_even 18 = .ok (.getfield 29, 3) := dcB (j := 18) (f := Instr.getfield) sX7_even_0 rfl op_180 rfl
theorem dX7_even_21 : decode cX7_even 21 = .ok (.iload_n 1, 1) := dc0 (j := 21) sX7_even_0 rfl op_27
theorem dX7_even_22 : decode cX7_even 22 = .ok (.aaload, 1) := dc0 (j := 22) sX7_even_0 rfl op_50
theorem dX7_even_23 : decode cX7_even 23 = .ok (.iload_n 2, 1) := dc0 (j := 23) sX7_even_0 rfl op_28
theorem dX7_even_24 : decode cX7_even 24 = .ok (.invokevirtual 200, 3) := dcB (j := 24) (f := Instr.invokevirtual) sX7_even_0 rfl op_182 rfl
theorem dX7_even_27 : decode cX7_even 27 = .ok (.aload_n 0, 1) := dc0 (j := 27) sX7_even_0 rfl op_42
theorem dX7_even_28 : decode cX7_even 28 = .ok (.getfield 50, 3) := dcB (j := 28) (f := Instr.getfield) sX7_even_0 rfl op_180 rfl
theorem dX7_even_31 : decode cX7_even 31 = .ok (.aload_n 0, 1) := dc0 (j := 31) sX7_even_0 rfl op_42
theorem dX7_even_32 : decode cX7_even 32 = .ok (.getfield 10, 3) := dcB (j := 32) (f := Instr.getfield) sX7_even_0 rfl op_180 rfl
theorem sX7_even_35 : sgm cX7_even 35 [182, 0, 213, 172] := by decide +kernel
theorem dX7_even_35 : decode cX7_even 35 = .ok (.invokevirtual 213, 3) := dcB (j := 0) (f := Instr.invokevirtual) sX7_even_35 rfl op_182 rfl
theorem dX7_even_38 : decode cX7_even 38 = .ok (.ireturn, 1) := dc0 (j := 3) sX7_even_35 rfl op_172
theorem sX7_wave_0 : sgm cX7_wave 0 [27, 4, 16, 12, 184, 0, 70, 153, 0, 14, 28, 3, 27, 4, 100, 184, 0, 70, 154, 0, 6, 16, 253, 172, 42, 27, 28, 182, 0, 217, 172] := by decide +kernel
theorem dX7_wave_0 : decode cX7_wave 0 = .ok (.iload_n 1, 1) := dc0 (j := 0) sX7_wave_0 rfl op_27
theorem dX7_wave_1 : decode cX7_wave 1 = .ok (.iconst 1, 1) := dc0 (j := 1) sX7_wave_0 rfl op_4
theorem dX7_wave_2 : decode cX7_wave 2 = .ok (.bipush 12, 2) := dcSp (j := 2) (a := 12) (f := Instr.bipush) sX7_wave_0 rfl op_16 rfl
theorem dX7_wave_4 : decode cX7_wave 4 = .ok (.invokestatic 70, 3) := dcB (j := 4) (f := Instr.invokestatic) sX7_wave_0 rfl op_184 rfl
theorem dX7_wave_7 : decode cX7_wave 7 = .ok (.ifCond .eq 14, 3) := dcTp (j := 7) (v := 14) (f := Instr.ifCond .eq) sX7_wave_0 rfl op_153 rfl rfl
theorem dX7_wave_10 : decode cX7_wave 10 = .ok (.iload_n 2, 1) := dc0 (j := 10) sX7_wave_0 rfl op_28
theorem dX7_wave_11 : decode cX7_wave 11 = .ok (.iconst 0, 1) := dc0 (j := 11) sX7_wave_0 rfl op_3
theorem dX7_wave_12 : decode cX7_wave 12 = .ok (.iload_n 1, 1) := dc0 (j := 12) sX7_wave_0 rfl op_27
theorem dX7_wave_13 : decode cX7_wave 13 = .ok (.iconst 1, 1) := dc0 (j := 13) sX7_wave_0 rfl op_4
theorem dX7_wave_14 : decode cX7_wave 14 = .ok (.isub, 1) := dc0 (j := 14) sX7_wave_0 rfl op_100
theorem dX7_wave_15 : decode cX7_wave 15 = .ok (.invokestatic 70, 3) := dcB (j := 15) (f := Instr.invokestatic) sX7_wave_0 rfl op_184 rfl
theorem dX7_wave_18 : decode cX7_wave 18 = .ok (.ifCond .ne 6, 3) := dcTp (j := 18) (v := 6) (f := Instr.ifCond .ne) sX7_wave_0 rfl op_154 rfl rfl
theorem dX7_wave_21 : decode cX7_wave 21 = .ok (.bipush (-3), 2) := dcSn (j := 21) (v := 3) (f := Instr.bipush) sX7_wave_0 rfl op_16 rfl rfl rfl
theorem dX7_wave_23 : decode cX7_wave 23 = .ok (.ireturn, 1) := dc0 (j := 23) sX7_wave_0 rfl op_172
theorem dX7_wave_24 : decode cX7_wave 24 = .ok (.aload_n 0, 1) := dc0 (j := 24) sX7_wave_0 rfl op_42
theorem dX7_wave_25 : decode cX7_wave 25 = .ok (.iload_n 1, 1) := dc0 (j := 25) sX7_wave_0 rfl op_27
theorem dX7_wave_26 : decode cX7_wave 26 = .ok (.iload_n 2, 1) := dc0 (j := 26) sX7_wave_0 rfl op_28
theorem dX7_wave_27 : decode cX7_wave 27 = .ok (.invokevirtual 217, 3) := dcB (j := 27) (f := Instr.invokevirtual) sX7_wave_0 rfl op_182 rfl
theorem dX7_wave_30 : decode cX7_wave 30 = .ok (.ireturn, 1) := dc0 (j := 30) sX7_wave_0 rfl op_172
theorem sX7_bestWave_0 : sgm cX7_bestWave 0 [27, 4, 16, 12, 184, 0, 70, 154, 0, 6, 16, 253, 172, 3, 61, 3, 62, 3, 54, 4, 21, 4, 27, 162, 0, 39, 42, 27, 21, 4, 182, 0, 217, 54, 5] := by decide +kernel
theorem dX7_bestWave_0 : decode cX7_bestWave 0 = .ok (.iload_n 1, 1) := dc0 (j := 0) sX7_bestWave_0 rfl op_27
theorem dX7_bestWave_1 : decode cX7_bestWave 1 = .ok (.iconst 1, 1) := dc0 (j := 1) sX7_bestWave_0 rfl op_4
theorem dX7_bestWave_2 : decode cX7_bestWave 2 = .ok (.bipush 12, 2) := dcSp (j := 2) (a := 12) (f := Instr.bipush) sX7_bestWave_0 rfl op_16 rfl
theorem dX7_bestWave_4 : decode cX7_bestWave 4 = .ok (.invokestatic 70, 3) := dcB (j := 4) (f := Instr.invokestatic) sX7_bestWave_0 rfl op_184 rfl
theorem dX7_bestWave_7 : decode cX7_bestWave 7 = .ok (.ifCond .ne 6, 3) := dcTp (j := 7) (v := 6) (f := Instr.ifCond .ne) sX7_bestWave_0 rfl op_154 rfl rfl
theorem dX7_bestWave_10 : decode cX7_bestWave 10 = .ok (.bipush (-3), 2) := dcSn (j := 10) (v := 3) (f := Instr.bipush) sX7_bestWave_0 rfl op_16 rfl rfl rfl
theorem dX7_bestWave_12 : decode cX7_bestWave 12 = .ok (.ireturn, 1) := dc0 (j := 12) sX7_bestWave_0 rfl op_172
theorem dX7_bestWave_13 : decode cX7_bestWave 13 = .ok (.iconst 0, 1) := dc0 (j := 13) sX7_bestWave_0 rfl op_3
theorem dX7_bestWave_14 : decode cX7_bestWave 14 = .ok (.istore_n 2, 1) := dc0 (j := 14) sX7_bestWave_0 rfl op_61
theorem dX7_bestWave_15 : decode cX7_bestWave 15 = .ok (.iconst 0, 1) := dc0 (j := 15) sX7_bestWave_0 rfl op_3
theorem dX7_bestWave_16 : decode cX7_bestWave 16 = .ok (.istore_n 3, 1) := dc0 (j := 16) sX7_bestWave_0 rfl op_62
theorem dX7_bestWave_17 : decode cX7_bestWave 17 = .ok (.iconst 0, 1) := dc0 (j := 17) sX7_bestWave_0 rfl op_3
theorem dX7_bestWave_18 : decode cX7_bestWave 18 = .ok (.istore 4, 2) := dcA (j := 18) (f := Instr.istore) sX7_bestWave_0 rfl op_54
theorem dX7_bestWave_20 : decode cX7_bestWave 20 = .ok (.iload 4, 2) := dcA (j := 20) (f := Instr.iload) sX7_bestWave_0 rfl op_21
theorem dX7_bestWave_22 : decode cX7_bestWave 22 = .ok (.iload_n 1, 1) := dc0 (j := 22) sX7_bestWave_0 rfl op_27
theorem dX7_bestWave_23 : decode cX7_bestWave 23 = .ok (.if_icmp .ge 39, 3) := dcTp (j := 23) (v := 39) (f := Instr.if_icmp .ge) sX7_bestWave_0 rfl op_162 rfl rfl
theorem dX7_bestWave_26 : decode cX7_bestWave 26 = .ok (.aload_n 0, 1) := dc0 (j := 26) sX7_bestWave_0 rfl op_42
theorem dX7_bestWave_27 : decode cX7_bestWave 27 = .ok (.iload_n 1, 1) := dc0 (j := 27) sX7_bestWave_0 rfl op_27
theorem dX7_bestWave_28 : decode cX7_bestWave 28 = .ok (.iload 4, 2) := dcA (j := 28) (f := Instr.iload) sX7_bestWave_0 rfl op_21
theorem dX7_bestWave_30 : decode cX7_bestWave 30 = .ok (.invokevirtual 217, 3) := dcB (j := 30) (f := Instr.invokevirtual) sX7_bestWave_0 rfl op_182 rfl
theorem dX7_bestWave_33 : decode cX7_bestWave 33 = .ok (.istore 5, 2) := dcA (j := 33) (f := Instr.istore) sX7_bestWave_0 rfl op_54
theorem sX7_bestWave_35 : sgm cX7_bestWave 35 [21, 5, 2, 160, 0, 6, 21, 4, 172, 21, 5, 29, 164, 0, 9, 21, 5, 62, 21, 4, 61, 132, 4, 1, 167, 255, 217, 28, 172] := by decide +kernel
theorem dX7_bestWave_35 : decode cX7_bestWave 35 = .ok (.iload 5, 2) := dcA (j := 0) (f := Instr.iload) sX7_bestWave_35 rfl op_21
theorem dX7_bestWave_37 : decode cX7_bestWave 37 = .ok (.iconst (-1), 1) := dc0 (j := 2) sX7_bestWave_35 rfl op_2
theorem dX7_bestWave_38 : decode cX7_bestWave 38 = .ok (.if_icmp .ne 6, 3) := dcTp (j := 3) (v := 6) (f := Instr.if_icmp .ne) sX7_bestWave_35 rfl op_160 rfl rfl
theorem dX7_bestWave_41 : decode cX7_bestWave 41 = .ok (.iload 4, 2) := dcA (j := 6) (f := Instr.iload) sX7_bestWave_35 rfl op_21
theorem dX7_bestWave_43 : decode cX7_bestWave 43 = .ok (.ireturn, 1) := dc0 (j := 8) sX7_bestWave_35 rfl op_172
theorem dX7_bestWave_44 : decode cX7_bestWave 44 = .ok (.iload 5, 2) := dcA (j := 9) (f := Instr.iload) sX7_bestWave_35 rfl op_21
theorem dX7_bestWave_46 : decode cX7_bestWave 46 = .ok (.iload_n 3, 1) := dc0 (j := 11) sX7_bestWave_35 rfl op_29
theorem dX7_bestWave_47 : decode cX7_bestWave 47 = .ok (.if_icmp .le 9, 3) := dcTp (j := 12) (v := 9) (f := Instr.if_icmp .le) sX7_bestWave_35 rfl op_164 rfl rfl
theorem dX7_bestWave_50 : decode cX7_bestWave 50 = .ok (.iload 5, 2) := dcA (j := 15) (f := Instr.iload) sX7_bestWave_35 rfl op_21
theorem dX7_bestWave_52 : decode cX7_bestWave 52 = .ok (.istore_n 3, 1) := dc0 (j := 17) sX7_bestWave_35 rfl op_62
theorem dX7_bestWave_53 : decode cX7_bestWave 53 = .ok (.iload 4, 2) := dcA (j := 18) (f := Instr.iload) sX7_bestWave_35 rfl op_21
theorem dX7_bestWave_55 : decode cX7_bestWave 55 = .ok (.istore_n 2, 1) := dc0 (j := 20) sX7_bestWave_35 rfl op_61
theorem dX7_bestWave_56 : decode cX7_bestWave 56 = .ok (.iinc 4 1, 3) := dcIp (j := 21) sX7_bestWave_35 rfl op_132 rfl
theorem dX7_bestWave_59 : decode cX7_bestWave 59 = .ok (.goto (-39), 3) := dcTn (j := 24) (v := 39) (f := Instr.goto) sX7_bestWave_35 rfl op_167 rfl rfl rfl
theorem dX7_bestWave_62 : decode cX7_bestWave 62 = .ok (.iload_n 2, 1) := dc0 (j := 27) sX7_bestWave_35 rfl op_28
theorem dX7_bestWave_63 : decode cX7_bestWave 63 = .ok (.ireturn, 1) := dc0 (j := 28) sX7_bestWave_35 rfl op_172
theorem sX7_waveBreaksBehind_0 : sgm cX7_waveBreaksBehind 0 [42, 180, 0, 50, 27, 28, 182, 0, 220, 42, 180, 0, 50, 42, 180, 0, 10, 182, 0, 204, 42, 180, 0, 50, 180, 0, 207, 172] := by decide +kernel
theorem dX7_waveBreaksBehind_0 : decode cX7_waveBreaksBehind 0 = .ok (.aload_n 0, 1) := dc0 (j := 0) sX7_waveBreaksBehind_0 rfl op_42
theorem dX7_waveBreaksBehind_1 : decode cX7_waveBreaksBehind 1 = .ok (.getfield 50, 3) := dcB (j := 1) (f := Instr.getfield) sX7_waveBreaksBehind_0 rfl op_180 rfl
theorem dX7_waveBreaksBehind_4 : decode cX7_waveBreaksBehind 4 = .ok (.iload_n 1, 1) := dc0 (j := 4) sX7_waveBreaksBehind_0 rfl op_27
theorem dX7_waveBreaksBehind_5 : decode cX7_waveBreaksBehind 5 = .ok (.iload_n 2, 1) := dc0 (j := 5) sX7_waveBreaksBehind_0 rfl op_28
theorem dX7_waveBreaksBehind_6 : decode cX7_waveBreaksBehind 6 = .ok (.invokevirtual 220, 3) := dcB (j := 6) (f := Instr.invokevirtual) sX7_waveBreaksBehind_0 rfl op_182 rfl
theorem dX7_waveBreaksBehind_9 : decode cX7_waveBreaksBehind 9 = .ok (.aload_n 0, 1) := dc0 (j := 9) sX7_waveBreaksBehind_0 rfl op_42
theorem dX7_waveBreaksBehind_10 : decode cX7_waveBreaksBehind 10 = .ok (.getfield 50, 3) := dcB (j := 10) (f := Instr.getfield) sX7_waveBreaksBehind_0 rfl op_180 rfl
theorem dX7_waveBreaksBehind_13 : decode cX7_waveBreaksBehind 13 = .ok (.aload_n 0, 1) := dc0 (j := 13) sX7_waveBreaksBehind_0 rfl op_42
theorem dX7_waveBreaksBehind_14 : decode cX7_waveBreaksBehind 14 = .ok (.getfield 10, 3) := dcB (j := 14) (f := Instr.getfield) sX7_waveBreaksBehind_0 rfl op_180 rfl
theorem dX7_waveBreaksBehind_17 : decode cX7_waveBreaksBehind 17 = .ok (.invokevirtual 204, 3) := dcB (j := 17) (f := Instr.invokevirtual) sX7_waveBreaksBehind_0 rfl op_182 rfl
theorem dX7_waveBreaksBehind_20 : decode cX7_waveBreaksBehind 20 = .ok (.aload_n 0, 1) := dc0 (j := 20) sX7_waveBreaksBehind_0 rfl op_42
theorem dX7_waveBreaksBehind_21 : decode cX7_waveBreaksBehind 21 = .ok (.getfield 50, 3) := dcB (j := 21) (f := Instr.getfield) sX7_waveBreaksBehind_0 rfl op_180 rfl
theorem dX7_waveBreaksBehind_24 : decode cX7_waveBreaksBehind 24 = .ok (.getfield 207, 3) := dcB (j := 24) (f := Instr.getfield) sX7_waveBreaksBehind_0 rfl op_180 rfl
theorem dX7_waveBreaksBehind_27 : decode cX7_waveBreaksBehind 27 = .ok (.ireturn, 1) := dc0 (j := 27) sX7_waveBreaksBehind_0 rfl op_172
theorem sX7_bestRound_0 : sgm cX7_bestRound 0 [28, 153, 0, 20, 42, 180, 0, 10, 28, 16, 10, 100, 182, 0, 91, 154, 0, 6, 16, 254, 172, 27, 4, 16, 10, 184, 0, 70, 154, 0, 6, 16, 253, 172, 42] := by decide +kernel
theorem dX7_bestRound_0 : decode cX7_bestRound 0 = .ok (.iload_n 2, 1) := dc0 (j := 0) sX7_bestRound_0 rfl op_28
theorem dX7_bestRound_1 : decode cX7_bestRound 1 = .ok (.ifCond .eq 20, 3) := dcTp (j := 1) (v := 20) (f := Instr.ifCond .eq) sX7_bestRound_0 rfl op_153 rfl rfl
theorem dX7_bestRound_4 : decode cX7_bestRound 4 = .ok (.aload_n 0, 1) := dc0 (j := 4) sX7_bestRound_0 rfl op_42
theorem dX7_bestRound_5 : decode cX7_bestRound 5 = .ok (.getfield 10, 3) := dcB (j := 5) (f := Instr.getfield) sX7_bestRound_0 rfl op_180 rfl
theorem dX7_bestRound_8 : decode cX7_bestRound 8 = .ok (.iload_n 2, 1) := dc0 (j := 8) sX7_bestRound_0 rfl op_28
theorem dX7_bestRound_9 : decode cX7_bestRound 9 = .ok (.bipush 10, 2) := dcSp (j := 9) (a := 10) (f := Instr.bipush) sX7_bestRound_0 rfl op_16 rfl
theorem dX7_bestRound_11 : decode cX7_bestRound 11 = .ok (.isub, 1) := dc0 (j := 11) sX7_bestRound_0 rfl op_100
theorem dX7_bestRound_12 : decode cX7_bestRound 12 = .ok (.invokevirtual 91, 3) := dcB (j := 12) (f := Instr.invokevirtual) sX7_bestRound_0 rfl op_182 rfl
theorem dX7_bestRound_15 : decode cX7_bestRound 15 = .ok (.ifCond .ne 6, 3) := dcTp (j := 15) (v := 6) (f := Instr.ifCond .ne) sX7_bestRound_0 rfl op_154 rfl rfl
theorem dX7_bestRound_18 : decode cX7_bestRound 18 = .ok (.bipush (-2), 2) := dcSn (j := 18) (v := 2) (f := Instr.bipush) sX7_bestRound_0 rfl op_16 rfl rfl rfl
theorem dX7_bestRound_20 : decode cX7_bestRound 20 = .ok (.ireturn, 1) := dc0 (j := 20) sX7_bestRound_0 rfl op_172
theorem dX7_bestRound_21 : decode cX7_bestRound 21 = .ok (.iload_n 1, 1) := dc0 (j := 21) sX7_bestRound_0 rfl op_27
theorem dX7_bestRound_22 : decode cX7_bestRound 22 = .ok (.iconst 1, 1) := dc0 (j := 22) sX7_bestRound_0 rfl op_4
theorem dX7_bestRound_23 : decode cX7_bestRound 23 = .ok (.bipush 10, 2) := dcSp (j := 23) (a := 10) (f := Instr.bipush) sX7_bestRound_0 rfl op_16 rfl
theorem dX7_bestRound_25 : decode cX7_bestRound 25 = .ok (.invokestatic 70, 3) := dcB (j := 25) (f := Instr.invokestatic) sX7_bestRound_0 rfl op_184 rfl
theorem dX7_bestRound_28 : decode cX7_bestRound 28 = .ok (.ifCond .ne 6, 3) := dcTp (j := 28) (v := 6) (f := Instr.ifCond .ne) sX7_bestRound_0 rfl op_154 rfl rfl
theorem dX7_bestRound_31 : decode cX7_bestRound 31 = .ok (.bipush (-3), 2) := dcSn (j := 31) (v := 3) (f := Instr.bipush) sX7_bestRound_0 rfl op_16 rfl rfl rfl
theorem dX7_bestRound_33 : decode cX7_bestRound 33 = .ok (.ireturn, 1) := dc0 (j := 33) sX7_bestRound_0 rfl op_172
theorem dX7_bestRound_34 : decode cX7_bestRound 34 = .ok (.aload_n 0, 1) := dc0 (j := 34) sX7_bestRound_0 rfl op_42
theorem sX7_bestRound_35 : sgm cX7_bestRound 35 [180, 0, 10, 180, 0, 184, 27, 104, 16, 10, 164, 0, 6, 16, 252, 172, 42, 180, 0, 50, 42, 180, 0, 10, 27, 182, 0, 223, 62, 28, 153, 0, 8, 29, 2] := by decide +kernel
theorem dX7_bestRound_35 : decode cX7_bestRound 35 = .ok (.getfield 10, 3) := dcB (j := 0) (f := Instr.getfield) sX7_bestRound_35 rfl op_180 rfl
theorem dX7_bestRound_38 : decode cX7_bestRound 38 = .ok (.getfield 184, 3) := dcB (j := 3) (f := Instr.getfield) sX7_bestRound_35 rfl op_180 rfl
theorem dX7_bestRound_41 : decode cX7_bestRound 41 = .ok (.iload_n 1, 1) := dc0 (j := 6) sX7_bestRound_35 rfl op_27
theorem dX7_bestRound_42 : decode cX7_bestRound 42 = .ok (.imul, 1) := dc0 (j := 7) sX7_bestRound_35 rfl op_104
theorem dX7_bestRound_43 : decode cX7_bestRound 43 = .ok (.bipush 10, 2) := dcSp (j := 8) (a := 10) (f := Instr.bipush) sX7_bestRound_35 rfl op_16 rfl
theorem dX7_bestRound_45 : decode cX7_bestRound 45 = .ok (.if_icmp .le 6, 3) := dcTp (j := 10) (v := 6) (f := Instr.if_icmp .le) sX7_bestRound_35 rfl op_164 rfl rfl
theorem dX7_bestRound_48 : decode cX7_bestRound 48 = .ok (.bipush (-4), 2) := dcSn (j := 13) (v := 4) (f := Instr.bipush) sX7_bestRound_35 rfl op_16 rfl rfl rfl
theorem dX7_bestRound_50 : decode cX7_bestRound 50 = .ok (.ireturn, 1) := dc0 (j := 15) sX7_bestRound_35 rfl op_172
theorem dX7_bestRound_51 : decode cX7_bestRound 51 = .ok (.aload_n 0, 1) := dc0 (j := 16) sX7_bestRound_35 rfl op_42
theorem dX7_bestRound_52 : decode cX7_bestRound 52 = .ok (.getfield 50, 3) := dcB (j := 17) (f := Instr.getfield) sX7_bestRound_35 rfl op_180 rfl
theorem dX7_bestRound_55 : decode cX7_bestRound 55 = .ok (.aload_n 0, 1) := dc0 (j := 20) sX7_bestRound_35 rfl op_42
theorem dX7_bestRound_56 : decode cX7_bestRound 56 = .ok (.getfield 10, 3) := dcB (j := 21) (f := Instr.getfield) sX7_bestRound_35 rfl op_180 rfl
theorem dX7_bestRound_59 : decode cX7_bestRound 59 = .ok (.iload_n 1, 1) := dc0 (j := 24) sX7_bestRound_35 rfl op_27
theorem dX7_bestRound_60 : decode cX7_bestRound 60 = .ok (.invokevirtual 223, 3) := dcB (j := 25) (f := Instr.invokevirtual) sX7_bestRound_35 rfl op_182 rfl
theorem dX7_bestRound_63 : decode cX7_bestRound 63 = .ok (.istore_n 3, 1) := dc0 (j := 28) sX7_bestRound_35 rfl op_62
theorem dX7_bestRound_64 : decode cX7_bestRound 64 = .ok (.iload_n 2, 1) := dc0 (j := 29) sX7_bestRound_35 rfl op_28
theorem dX7_bestRound_65 : decode cX7_bestRound 65 = .ok (.ifCond .eq 8, 3) := dcTp (j := 30) (v := 8) (f := Instr.ifCond .eq) sX7_bestRound_35 rfl op_153 rfl rfl
theorem dX7_bestRound_68 : decode cX7_bestRound 68 = .ok (.iload_n 3, 1) := dc0 (j := 33) sX7_bestRound_35 rfl op_29
theorem dX7_bestRound_69 : decode cX7_bestRound 69 = .ok (.iconst (-1), 1) := dc0 (j := 34) sX7_bestRound_35 rfl op_2
theorem sX7_bestRound_70 : sgm cX7_bestRound 70 [160, 0, 7, 29, 167, 0, 15, 42, 180, 0, 50, 180, 0, 227, 28, 16, 10, 100, 46, 172] := by decide +kernel
theorem dX7_bestRound_70 : decode cX7_bestRound 70 = .ok (.if_icmp .ne 7, 3) := dcTp (j := 0) (v := 7) (f := Instr.if_icmp .ne) sX7_bestRound_70 rfl op_160 rfl rfl
theorem dX7_bestRound_73 : decode cX7_bestRound 73 = .ok (.iload_n 3, 1) := dc0 (j := 3) sX7_bestRound_70 rfl op_29
theorem dX7_bestRound_74 : decode cX7_bestRound 74 = .ok (.goto 15, 3) := dcTp (j := 4) (v := 15) (f := Instr.goto) sX7_bestRound_70 rfl op_167 rfl rfl
theorem dX7_bestRound_77 : decode cX7_bestRound 77 = .ok (.aload_n 0, 1) := dc0 (j := 7) sX7_bestRound_70 rfl op_42
theorem dX7_bestRound_78 : decode cX7_bestRound 78 = .ok (.getfield 50, 3) := dcB (j := 8) (f := Instr.getfield) sX7_bestRound_70 rfl op_180 rfl
theorem dX7_bestRound_81 : decode cX7_bestRound 81 = .ok (.getfield 227, 3) := dcB (j := 11) (f := Instr.getfield) sX7_bestRound_70 rfl op_180 rfl
theorem dX7_bestRound_84 : decode cX7_bestRound 84 = .ok (.iload_n 2, 1) := dc0 (j := 14) sX7_bestRound_70 rfl op_28
theorem dX7_bestRound_85 : decode cX7_bestRound 85 = .ok (.bipush 10, 2) := dcSp (j := 15) (a := 10) (f := Instr.bipush) sX7_bestRound_70 rfl op_16 rfl
theorem dX7_bestRound_87 : decode cX7_bestRound 87 = .ok (.isub, 1) := dc0 (j := 17) sX7_bestRound_70 rfl op_100
theorem dX7_bestRound_88 : decode cX7_bestRound 88 = .ok (.iaload, 1) := dc0 (j := 18) sX7_bestRound_70 rfl op_46
theorem dX7_bestRound_89 : decode cX7_bestRound 89 = .ok (.ireturn, 1) := dc0 (j := 19) sX7_bestRound_70 rfl op_172
theorem sX7_peace_0 : sgm cX7_peace 0 [27, 3, 4, 184, 0, 70, 154, 0, 6, 16, 254, 172, 3, 61, 42, 180, 0, 10, 3, 182, 0, 230, 62, 4, 54, 4, 21, 4, 42, 180, 0, 10, 182, 0, 233] := by decide +kernel
theorem dX7_peace_0 : decode cX7_peace 0 = .ok (.iload_n 1, 1) := dc0 (j := 0) sX7_peace_0 rfl op_27
theorem dX7_peace_1 : decode cX7_peace 1 = .ok (.iconst 0, 1) := dc0 (j := 1) sX7_peace_0 rfl op_3
theorem dX7_peace_2 : decode cX7_peace 2 = .ok (.iconst 1, 1) := dc0 (j := 2) sX7_peace_0 rfl op_4
theorem dX7_peace_3 : decode cX7_peace 3 = .ok (.invokestatic 70, 3) := dcB (j := 3) (f := Instr.invokestatic) sX7_peace_0 rfl op_184 rfl
theorem dX7_peace_6 : decode cX7_peace 6 = .ok (.ifCond .ne 6, 3) := dcTp (j := 6) (v := 6) (f := Instr.ifCond .ne) sX7_peace_0 rfl op_154 rfl rfl
theorem dX7_peace_9 : decode cX7_peace 9 = .ok (.bipush (-2), 2) := dcSn (j := 9) (v := 2) (f := Instr.bipush) sX7_peace_0 rfl op_16 rfl rfl rfl
theorem dX7_peace_11 : decode cX7_peace 11 = .ok (.ireturn, 1) := dc0 (j := 11) sX7_peace_0 rfl op_172
theorem dX7_peace_12 : decode cX7_peace 12 = .ok (.iconst 0, 1) := dc0 (j := 12) sX7_peace_0 rfl op_3
theorem dX7_peace_13 : decode cX7_peace 13 = .ok (.istore_n 2, 1) := dc0 (j := 13) sX7_peace_0 rfl op_61
theorem dX7_peace_14 : decode cX7_peace 14 = .ok (.aload_n 0, 1) := dc0 (j := 14) sX7_peace_0 rfl op_42
theorem dX7_peace_15 : decode cX7_peace 15 = .ok (.getfield 10, 3) := dcB (j := 15) (f := Instr.getfield) sX7_peace_0 rfl op_180 rfl
theorem dX7_peace_18 : decode cX7_peace 18 = .ok (.iconst 0, 1) := dc0 (j := 18) sX7_peace_0 rfl op_3
theorem dX7_peace_19 : decode cX7_peace 19 = .ok (.invokevirtual 230, 3) := dcB (j := 19) (f := Instr.invokevirtual) sX7_peace_0 rfl op_182 rfl
theorem dX7_peace_22 : decode cX7_peace 22 = .ok (.istore_n 3, 1) := dc0 (j := 22) sX7_peace_0 rfl op_62
theorem dX7_peace_23 : decode cX7_peace 23 = .ok (.iconst 1, 1) := dc0 (j := 23) sX7_peace_0 rfl op_4
theorem dX7_peace_24 : decode cX7_peace 24 = .ok (.istore 4, 2) := dcA (j := 24) (f := Instr.istore) sX7_peace_0 rfl op_54
theorem dX7_peace_26 : decode cX7_peace 26 = .ok (.iload 4, 2) := dcA (j := 26) (f := Instr.iload) sX7_peace_0 rfl op_21
theorem dX7_peace_28 : decode cX7_peace 28 = .ok (.aload_n 0, 1) := dc0 (j := 28) sX7_peace_0 rfl op_42
theorem dX7_peace_29 : decode cX7_peace 29 = .ok (.getfield 10, 3) := dcB (j := 29) (f := Instr.getfield) sX7_peace_0 rfl op_180 rfl
theorem dX7_peace_32 : decode cX7_peace 32 = .ok (.invokevirtual 233, 3) := dcB (j := 32) (f := Instr.invokevirtual) sX7_peace_0 rfl op_182 rfl
theorem sX7_peace_35 : sgm cX7_peace 35 [163, 0, 32, 42, 180, 0, 10, 21, 4, 182, 0, 230, 54, 5, 21, 5, 29, 164, 0, 9, 21, 5, 62, 21, 4, 61, 132, 4, 1, 167, 255, 218, 27, 154, 0, 7] := by decide +kernel
theorem dX7_peace_35 : decode cX7_peace 35 = .ok (.if_icmp .gt 32, 3) := dcTp (j := 0) (v := 32) (f := Instr.if_icmp .gt) sX7_peace_35 rfl op_163 rfl rfl
theorem dX7_peace_38 : decode cX7_peace 38 = .ok (.aload_n 0, 1) := dc0 (j := 3) sX7_peace_35 rfl op_42
theorem dX7_peace_39 : decode cX7_peace 39 = .ok (.getfield 10, 3) := dcB (j := 4) (f := Instr.getfield) sX7_peace_35 rfl op_180 rfl
theorem dX7_peace_42 : decode cX7_peace 42 = .ok (.iload 4, 2) := dcA (j := 7) (f := Instr.iload) sX7_peace_35 rfl op_21
theorem dX7_peace_44 : decode cX7_peace 44 = .ok (.invokevirtual 230, 3) := dcB (j := 9) (f := Instr.invokevirtual) sX7_peace_35 rfl op_182 rfl
theorem dX7_peace_47 : decode cX7_peace 47 = .ok (.istore 5, 2) := dcA (j := 12) (f := Instr.istore) sX7_peace_35 rfl op_54
theorem dX7_peace_49 : decode cX7_peace 49 = .ok (.iload 5, 2) := dcA (j := 14) (f := Instr.iload) sX7_peace_35 rfl op_21
theorem dX7_peace_51 : decode cX7_peace 51 = .ok (.iload_n 3, 1) := dc0 (j := 16) sX7_peace_35 rfl op_29
theorem dX7_peace_52 : decode cX7_peace 52 = .ok (.if_icmp .le 9, 3) := dcTp (j := 17) (v := 9) (f := Instr.if_icmp .le) sX7_peace_35 rfl op_164 rfl rfl
theorem dX7_peace_55 : decode cX7_peace 55 = .ok (.iload 5, 2) := dcA (j := 20) (f := Instr.iload) sX7_peace_35 rfl op_21
theorem dX7_peace_57 : decode cX7_peace 57 = .ok (.istore_n 3, 1) := dc0 (j := 22) sX7_peace_35 rfl op_62
theorem dX7_peace_58 : decode cX7_peace 58 = .ok (.iload 4, 2) := dcA (j := 23) (f := Instr.iload) sX7_peace_35 rfl op_21
theorem dX7_peace_60 : decode cX7_peace 60 = .ok (.istore_n 2, 1) := dc0 (j := 25) sX7_peace_35 rfl op_61
theorem dX7_peace_61 : decode cX7_peace 61 = .ok (.iinc 4 1, 3) := dcIp (j := 26) sX7_peace_35 rfl op_132 rfl
theorem dX7_peace_64 : decode cX7_peace 64 = .ok (.goto (-38), 3) := dcTn (j := 29) (v := 38) (f := Instr.goto) sX7_peace_35 rfl op_167 rfl rfl rfl
theorem dX7_peace_67 : decode cX7_peace 67 = .ok (.iload_n 1, 1) := dc0 (j := 32) sX7_peace_35 rfl op_27
theorem dX7_peace_68 : decode cX7_peace 68 = .ok (.ifCond .ne 7, 3) := dcTp (j := 33) (v := 7) (f := Instr.ifCond .ne) sX7_peace_35 rfl op_154 rfl rfl
theorem sX7_peace_71 : sgm cX7_peace 71 [29, 167, 0, 4, 28, 172] := by decide +kernel
theorem dX7_peace_71 : decode cX7_peace 71 = .ok (.iload_n 3, 1) := dc0 (j := 0) sX7_peace_71 rfl op_29
theorem dX7_peace_72 : decode cX7_peace 72 = .ok (.goto 4, 3) := dcTp (j := 1) (v := 4) (f := Instr.goto) sX7_peace_71 rfl op_167 rfl rfl
theorem dX7_peace_75 : decode cX7_peace 75 = .ok (.iload_n 2, 1) := dc0 (j := 4) sX7_peace_71 rfl op_28
theorem dX7_peace_76 : decode cX7_peace 76 = .ok (.ireturn, 1) := dc0 (j := 5) sX7_peace_71 rfl op_172
theorem sX7_selfish_0 : sgm cX7_selfish 0 [27, 2, 162, 0, 5, 2, 172, 3, 61, 3, 62, 29, 42, 180, 0, 10, 182, 0, 233, 163, 0, 30, 42, 180, 0, 10, 29, 182, 0, 236, 153, 0, 13, 28, 27] := by decide +kernel
theorem dX7_selfish_0 : decode cX7_selfish 0 = .ok (.iload_n 1, 1) := dc0 (j := 0) sX7_selfish_0 rfl op_27
theorem dX7_selfish_1 : decode cX7_selfish 1 = .ok (.iconst (-1), 1) := dc0 (j := 1) sX7_selfish_0 rfl op_2
theorem dX7_selfish_2 : decode cX7_selfish 2 = .ok (.if_icmp .ge 5, 3) := dcTp (j := 2) (v := 5) (f := Instr.if_icmp .ge) sX7_selfish_0 rfl op_162 rfl rfl
theorem dX7_selfish_5 : decode cX7_selfish 5 = .ok (.iconst (-1), 1) := dc0 (j := 5) sX7_selfish_0 rfl op_2
theorem dX7_selfish_6 : decode cX7_selfish 6 = .ok (.ireturn, 1) := dc0 (j := 6) sX7_selfish_0 rfl op_172
theorem dX7_selfish_7 : decode cX7_selfish 7 = .ok (.iconst 0, 1) := dc0 (j := 7) sX7_selfish_0 rfl op_3
theorem dX7_selfish_8 : decode cX7_selfish 8 = .ok (.istore_n 2, 1) := dc0 (j := 8) sX7_selfish_0 rfl op_61
theorem dX7_selfish_9 : decode cX7_selfish 9 = .ok (.iconst 0, 1) := dc0 (j := 9) sX7_selfish_0 rfl op_3
theorem dX7_selfish_10 : decode cX7_selfish 10 = .ok (.istore_n 3, 1) := dc0 (j := 10) sX7_selfish_0 rfl op_62
theorem dX7_selfish_11 : decode cX7_selfish 11 = .ok (.iload_n 3, 1) := dc0 (j := 11) sX7_selfish_0 rfl op_29
theorem dX7_selfish_12 : decode cX7_selfish 12 = .ok (.aload_n 0, 1) := dc0 (j := 12) sX7_selfish_0 rfl op_42
theorem dX7_selfish_13 : decode cX7_selfish 13 = .ok (.getfield 10, 3) := dcB (j := 13) (f := Instr.getfield) sX7_selfish_0 rfl op_180 rfl
theorem dX7_selfish_16 : decode cX7_selfish 16 = .ok (.invokevirtual 233, 3) := dcB (j := 16) (f := Instr.invokevirtual) sX7_selfish_0 rfl op_182 rfl
theorem dX7_selfish_19 : decode cX7_selfish 19 = .ok (.if_icmp .gt 30, 3) := dcTp (j := 19) (v := 30) (f := Instr.if_icmp .gt) sX7_selfish_0 rfl op_163 rfl rfl
theorem dX7_selfish_22 : decode cX7_selfish 22 = .ok (.aload_n 0, 1) := dc0 (j := 22) sX7_selfish_0 rfl op_42
theorem dX7_selfish_23 : decode cX7_selfish 23 = .ok (.getfield 10, 3) := dcB (j := 23) (f := Instr.getfield) sX7_selfish_0 rfl op_180 rfl
theorem dX7_selfish_26 : decode cX7_selfish 26 = .ok (.iload_n 3, 1) := dc0 (j := 26) sX7_selfish_0 rfl op_29
theorem dX7_selfish_27 : decode cX7_selfish 27 = .ok (.invokevirtual 236, 3) := dcB (j := 27) (f := Instr.invokevirtual) sX7_selfish_0 rfl op_182 rfl
theorem dX7_selfish_30 : decode cX7_selfish 30 = .ok (.ifCond .eq 13, 3) := dcTp (j := 30) (v := 13) (f := Instr.ifCond .eq) sX7_selfish_0 rfl op_153 rfl rfl
theorem dX7_selfish_33 : decode cX7_selfish 33 = .ok (.iload_n 2, 1) := dc0 (j := 33) sX7_selfish_0 rfl op_28
theorem dX7_selfish_34 : decode cX7_selfish 34 = .ok (.iload_n 1, 1) := dc0 (j := 34) sX7_selfish_0 rfl op_27
theorem sX7_selfish_35 : sgm cX7_selfish 35 [160, 0, 5, 29, 172, 132, 2, 1, 132, 3, 1, 167, 255, 221, 27, 2, 160, 0, 7, 28, 167, 0, 4, 2, 172] := by decide +kernel
theorem dX7_selfish_35 : decode cX7_selfish 35 = .ok (.if_icmp .ne 5, 3) := dcTp (j := 0) (v := 5) (f := Instr.if_icmp .ne) sX7_selfish_35 rfl op_160 rfl rfl
theorem dX7_selfish_38 : decode cX7_selfish 38 = .ok (.iload_n 3, 1) := dc0 (j := 3) sX7_selfish_35 rfl op_29
theorem dX7_selfish_39 : decode cX7_selfish 39 = .ok (.ireturn, 1) := dc0 (j := 4) sX7_selfish_35 rfl op_172
theorem dX7_selfish_40 : decode cX7_selfish 40 = .ok (.iinc 2 1, 3) := dcIp (j := 5) sX7_selfish_35 rfl op_132 rfl
theorem dX7_selfish_43 : decode cX7_selfish 43 = .ok (.iinc 3 1, 3) := dcIp (j := 8) sX7_selfish_35 rfl op_132 rfl
theorem dX7_selfish_46 : decode cX7_selfish 46 = .ok (.goto (-35), 3) := dcTn (j := 11) (v := 35) (f := Instr.goto) sX7_selfish_35 rfl op_167 rfl rfl rfl
theorem dX7_selfish_49 : decode cX7_selfish 49 = .ok (.iload_n 1, 1) := dc0 (j := 14) sX7_selfish_35 rfl op_27
theorem dX7_selfish_50 : decode cX7_selfish 50 = .ok (.iconst (-1), 1) := dc0 (j := 15) sX7_selfish_35 rfl op_2
theorem dX7_selfish_51 : decode cX7_selfish 51 = .ok (.if_icmp .ne 7, 3) := dcTp (j := 16) (v := 7) (f := Instr.if_icmp .ne) sX7_selfish_35 rfl op_160 rfl rfl
theorem dX7_selfish_54 : decode cX7_selfish 54 = .ok (.iload_n 2, 1) := dc0 (j := 19) sX7_selfish_35 rfl op_28
theorem dX7_selfish_55 : decode cX7_selfish 55 = .ok (.goto 4, 3) := dcTp (j := 20) (v := 4) (f := Instr.goto) sX7_selfish_35 rfl op_167 rfl rfl
theorem dX7_selfish_58 : decode cX7_selfish 58 = .ok (.iconst (-1), 1) := dc0 (j := 23) sX7_selfish_35 rfl op_2
theorem dX7_selfish_59 : decode cX7_selfish 59 = .ok (.ireturn, 1) := dc0 (j := 24) sX7_selfish_35 rfl op_172
theorem sX7_soonest_0 : sgm cX7_soonest 0 [42, 180, 0, 10, 180, 0, 184, 6, 164, 0, 6, 16, 252, 172, 42, 180, 0, 10, 182, 0, 164, 42, 180, 0, 10, 180, 0, 184, 160, 0, 5, 3, 172, 42] := by decide +kernel
theorem dX7_soonest_0 : decode cX7_soonest 0 = .ok (.aload_n 0, 1) := dc0 (j := 0) sX7_soonest_0 rfl op_42
theorem dX7_soonest_1 : decode cX7_soonest 1 = .ok (.getfield 10, 3) := dcB (j := 1) (f := Instr.getfield) sX7_soonest_0 rfl op_180 rfl
theorem dX7_soonest_4 : decode cX7_soonest 4 = .ok (.getfield 184, 3) := dcB (j := 4) (f := Instr.getfield) sX7_soonest_0 rfl op_180 rfl
theorem dX7_soonest_7 : decode cX7_soonest 7 = .ok (.iconst 3, 1) := dc0 (j := 7) sX7_soonest_0 rfl op_6
theorem dX7_soonest_8 : decode cX7_soonest 8 = .ok (.if_icmp .le 6, 3) := dcTp (j := 8) (v := 6) (f := Instr.if_icmp .le) sX7_soonest_0 rfl op_164 rfl rfl
theorem dX7_soonest_11 : decode cX7_soonest 11 = .ok (.bipush (-4), 2) := dcSn (j := 11) (v := 4) (f := Instr.bipush) sX7_soonest_0 rfl op_16 rfl rfl rfl
theorem dX7_soonest_13 : decode cX7_soonest 13 = .ok (.ireturn, 1) := dc0 (j := 13) sX7_soonest_0 rfl op_172
theorem dX7_soonest_14 : decode cX7_soonest 14 = .ok (.aload_n 0, 1) := dc0 (j := 14) sX7_soonest_0 rfl op_42
theorem dX7_soonest_15 : decode cX7_soonest 15 = .ok (.getfield 10, 3) := dcB (j := 15) (f := Instr.getfield) sX7_soonest_0 rfl op_180 rfl
theorem dX7_soonest_18 : decode cX7_soonest 18 = .ok (.invokevirtual 164, 3) := dcB (j := 18) (f := Instr.invokevirtual) sX7_soonest_0 rfl op_182 rfl
theorem dX7_soonest_21 : decode cX7_soonest 21 = .ok (.aload_n 0, 1) := dc0 (j := 21) sX7_soonest_0 rfl op_42
theorem dX7_soonest_22 : decode cX7_soonest 22 = .ok (.getfield 10, 3) := dcB (j := 22) (f := Instr.getfield) sX7_soonest_0 rfl op_180 rfl
theorem dX7_soonest_25 : decode cX7_soonest 25 = .ok (.getfield 184, 3) := dcB (j := 25) (f := Instr.getfield) sX7_soonest_0 rfl op_180 rfl
theorem dX7_soonest_28 : decode cX7_soonest 28 = .ok (.if_icmp .ne 5, 3) := dcTp (j := 28) (v := 5) (f := Instr.if_icmp .ne) sX7_soonest_0 rfl op_160 rfl rfl
theorem dX7_soonest_31 : decode cX7_soonest 31 = .ok (.iconst 0, 1) := dc0 (j := 31) sX7_soonest_0 rfl op_3
theorem dX7_soonest_32 : decode cX7_soonest 32 = .ok (.ireturn, 1) := dc0 (j := 32) sX7_soonest_0 rfl op_172
theorem dX7_soonest_33 : decode cX7_soonest 33 = .ok (.aload_n 0, 1) := dc0 (j := 33) sX7_soonest_0 rfl op_42
theorem sX7_soonest_34 : sgm cX7_soonest 34 [180, 0, 239, 199, 0, 14, 42, 187, 0, 243, 89, 183, 0, 245, 181, 0, 239, 42, 180, 0, 239, 42, 180, 0, 10, 182, 0, 246, 172] := by decide +kernel
theorem dX7_soonest_34 : decode cX7_soonest 34 = .ok (.getfield 239, 3) := dcB (j := 0) (f := Instr.getfield) sX7_soonest_34 rfl op_180 rfl
theorem dX7_soonest_37 : decode cX7_soonest 37 = .ok (.ifnonnull 14, 3) := dcTp (j := 3) (v := 14) (f := Instr.ifnonnull) sX7_soonest_34 rfl op_199 rfl rfl
theorem dX7_soonest_40 : decode cX7_soonest 40 = .ok (.aload_n 0, 1) := dc0 (j := 6) sX7_soonest_34 rfl op_42
theorem dX7_soonest_41 : decode cX7_soonest 41 = .ok (.new 243, 3) := dcB (j := 7) (f := Instr.new) sX7_soonest_34 rfl op_187 rfl
theorem dX7_soonest_44 : decode cX7_soonest 44 = .ok (.dup, 1) := dc0 (j := 10) sX7_soonest_34 rfl op_89
theorem dX7_soonest_45 : decode cX7_soonest 45 = .ok (.invokespecial 245, 3) := dcB (j := 11) (f := Instr.invokespecial) sX7_soonest_34 rfl op_183 rfl
theorem dX7_soonest_48 : decode cX7_soonest 48 = .ok (.putfield 239, 3) := dcB (j := 14) (f := Instr.putfield) sX7_soonest_34 rfl op_181 rfl
theorem dX7_soonest_51 : decode cX7_soonest 51 = .ok (.aload_n 0, 1) := dc0 (j := 17) sX7_soonest_34 rfl op_42
theorem dX7_soonest_52 : decode cX7_soonest 52 = .ok (.getfield 239, 3) := dcB (j := 18) (f := Instr.getfield) sX7_soonest_34 rfl op_180 rfl
theorem dX7_soonest_55 : decode cX7_soonest 55 = .ok (.aload_n 0, 1) := dc0 (j := 21) sX7_soonest_34 rfl op_42
theorem dX7_soonest_56 : decode cX7_soonest 56 = .ok (.getfield 10, 3) := dcB (j := 22) (f := Instr.getfield) sX7_soonest_34 rfl op_180 rfl
theorem dX7_soonest_59 : decode cX7_soonest 59 = .ok (.invokevirtual 246, 3) := dcB (j := 25) (f := Instr.invokevirtual) sX7_soonest_34 rfl op_182 rfl
theorem dX7_soonest_62 : decode cX7_soonest 62 = .ok (.ireturn, 1) := dc0 (j := 28) sX7_soonest_34 rfl op_172
theorem sX7_seen_0 : sgm cX7_seen 0 [42, 27, 182, 0, 249, 61, 28, 153, 0, 5, 28, 172, 3, 62, 3, 54, 4, 21, 4, 42, 180, 0, 10, 182, 0, 233, 163, 0, 30, 42, 180, 0, 10, 42] := by decide +kernel
theorem dX7_seen_0 : decode cX7_seen 0 = .ok (.aload_n 0, 1) := dc0 (j := 0) sX7_seen_0 rfl op_42
theorem dX7_seen_1 : decode cX7_seen 1 = .ok (.iload_n 1, 1) := dc0 (j := 1) sX7_seen_0 rfl op_27
theorem dX7_seen_2 : decode cX7_seen 2 = .ok (.invokevirtual 249, 3) := dcB (j := 2) (f := Instr.invokevirtual) sX7_seen_0 rfl op_182 rfl
theorem dX7_seen_5 : decode cX7_seen 5 = .ok (.istore_n 2, 1) := dc0 (j := 5) sX7_seen_0 rfl op_61
theorem dX7_seen_6 : decode cX7_seen 6 = .ok (.iload_n 2, 1) := dc0 (j := 6) sX7_seen_0 rfl op_28
theorem dX7_seen_7 : decode cX7_seen 7 = .ok (.ifCond .eq 5, 3) := dcTp (j := 7) (v := 5) (f := Instr.ifCond .eq) sX7_seen_0 rfl op_153 rfl rfl
theorem dX7_seen_10 : decode cX7_seen 10 = .ok (.iload_n 2, 1) := dc0 (j := 10) sX7_seen_0 rfl op_28
theorem dX7_seen_11 : decode cX7_seen 11 = .ok (.ireturn, 1) := dc0 (j := 11) sX7_seen_0 rfl op_172
theorem dX7_seen_12 : decode cX7_seen 12 = .ok (.iconst 0, 1) := dc0 (j := 12) sX7_seen_0 rfl op_3
theorem dX7_seen_13 : decode cX7_seen 13 = .ok (.istore_n 3, 1) := dc0 (j := 13) sX7_seen_0 rfl op_62
theorem dX7_seen_14 : decode cX7_seen 14 = .ok (.iconst 0, 1) := dc0 (j := 14) sX7_seen_0 rfl op_3
theorem dX7_seen_15 : decode cX7_seen 15 = .ok (.istore 4, 2) := dcA (j := 15) (f := Instr.istore) sX7_seen_0 rfl op_54
theorem dX7_seen_17 : decode cX7_seen 17 = .ok (.iload 4, 2) := dcA (j := 17) (f := Instr.iload) sX7_seen_0 rfl op_21
theorem dX7_seen_19 : decode cX7_seen 19 = .ok (.aload_n 0, 1) := dc0 (j := 19) sX7_seen_0 rfl op_42
theorem dX7_seen_20 : decode cX7_seen 20 = .ok (.getfield 10, 3) := dcB (j := 20) (f := Instr.getfield) sX7_seen_0 rfl op_180 rfl
theorem dX7_seen_23 : decode cX7_seen 23 = .ok (.invokevirtual 233, 3) := dcB (j := 23) (f := Instr.invokevirtual) sX7_seen_0 rfl op_182 rfl
theorem dX7_seen_26 : decode cX7_seen 26 = .ok (.if_icmp .gt 30, 3) := dcTp (j := 26) (v := 30) (f := Instr.if_icmp .gt) sX7_seen_0 rfl op_163 rfl rfl
theorem dX7_seen_29 : decode cX7_seen 29 = .ok (.aload_n 0, 1) := dc0 (j := 29) sX7_seen_0 rfl op_42
theorem dX7_seen_30 : decode cX7_seen 30 = .ok (.getfield 10, 3) := dcB (j := 30) (f := Instr.getfield) sX7_seen_0 rfl op_180 rfl
theorem dX7_seen_33 : decode cX7_seen 33 = .ok (.aload_n 0, 1) := dc0 (j := 33) sX7_seen_0 rfl op_42
theorem sX7_seen_34 : sgm cX7_seen 34 [180, 0, 29, 27, 50, 21, 4, 182, 0, 252, 153, 0, 6, 132, 3, 1, 132, 4, 1, 167, 255, 220, 29, 172] := by decide +kernel
theorem dX7_seen_34 : decode cX7_seen 34 = .ok (.getfield 29, 3) := dcB (j := 0) (f := Instr.getfield) sX7_seen_34 rfl op_180 rfl
theorem dX7_seen_37 : decode cX7_seen 37 = .ok (.iload_n 1, 1) := dc0 (j := 3) sX7_seen_34 rfl op_27
theorem dX7_seen_38 : decode cX7_seen 38 = .ok (.aaload, 1) := dc0 (j := 4) sX7_seen_34 rfl op_50
theorem dX7_seen_39 : decode cX7_seen 39 = .ok (.iload 4, 2) := dcA (j := 5) (f := Instr.iload) sX7_seen_34 rfl op_21
theorem dX7_seen_41 : decode cX7_seen 41 = .ok (.invokevirtual 252, 3) := dcB (j := 7) (f := Instr.invokevirtual) sX7_seen_34 rfl op_182 rfl
theorem dX7_seen_44 : decode cX7_seen 44 = .ok (.ifCond .eq 6, 3) := dcTp (j := 10) (v := 6) (f := Instr.ifCond .eq) sX7_seen_34 rfl op_153 rfl rfl
theorem dX7_seen_47 : decode cX7_seen 47 = .ok (.iinc 3 1, 3) := dcIp (j := 13) sX7_seen_34 rfl op_132 rfl
theorem dX7_seen_50 : decode cX7_seen 50 = .ok (.iinc 4 1, 3) := dcIp (j := 16) sX7_seen_34 rfl op_132 rfl
theorem dX7_seen_53 : decode cX7_seen 53 = .ok (.goto (-36), 3) := dcTn (j := 19) (v := 36) (f := Instr.goto) sX7_seen_34 rfl op_167 rfl rfl rfl
theorem dX7_seen_56 : decode cX7_seen 56 = .ok (.iload_n 3, 1) := dc0 (j := 22) sX7_seen_34 rfl op_29
theorem dX7_seen_57 : decode cX7_seen 57 = .ok (.ireturn, 1) := dc0 (j := 23) sX7_seen_34 rfl op_172
theorem sX7_sure_0 : sgm cX7_sure 0 [42, 27, 182, 0, 249, 62, 29, 153, 0, 5, 29, 172, 42, 180, 0, 10, 182, 0, 233, 54, 4, 3, 54, 5, 3, 54, 6, 21, 6, 42, 180, 0, 10, 182, 0, 233] := by decide +kernel
theorem dX7_sure_0 : decode cX7_sure 0 = .ok (.aload_n 0, 1) := dc0 (j := 0) sX7_sure_0 rfl op_42
theorem dX7_sure_1 : decode cX7_sure 1 = .ok (.iload_n 1, 1) := dc0 (j := 1) sX7_sure_0 rfl op_27
theorem dX7_sure_2 : decode cX7_sure 2 = .ok (.invokevirtual 249, 3) := dcB (j := 2) (f := Instr.invokevirtual) sX7_sure_0 rfl op_182 rfl
theorem dX7_sure_5 : decode cX7_sure 5 = .ok (.istore_n 3, 1) := dc0 (j := 5) sX7_sure_0 rfl op_62
theorem dX7_sure_6 : decode cX7_sure 6 = .ok (.iload_n 3, 1) := dc0 (j := 6) sX7_sure_0 rfl op_29
theorem dX7_sure_7 : decode cX7_sure 7 = .ok (.ifCond .eq 5, 3) := dcTp (j := 7) (v := 5) (f := Instr.ifCond .eq) sX7_sure_0 rfl op_153 rfl rfl
theorem dX7_sure_10 : decode cX7_sure 10 = .ok (.iload_n 3, 1) := dc0 (j := 10) sX7_sure_0 rfl op_29
theorem dX7_sure_11 : decode cX7_sure 11 = .ok (.ireturn, 1) := dc0 (j := 11) sX7_sure_0 rfl op_172
theorem dX7_sure_12 : decode cX7_sure 12 = .ok (.aload_n 0, 1) := dc0 (j := 12) sX7_sure_0 rfl op_42
theorem dX7_sure_13 : decode cX7_sure 13 = .ok (.getfield 10, 3) := dcB (j := 13) (f := Instr.getfield) sX7_sure_0 rfl op_180 rfl
theorem dX7_sure_16 : decode cX7_sure 16 = .ok (.invokevirtual 233, 3) := dcB (j := 16) (f := Instr.invokevirtual) sX7_sure_0 rfl op_182 rfl
theorem dX7_sure_19 : decode cX7_sure 19 = .ok (.istore 4, 2) := dcA (j := 19) (f := Instr.istore) sX7_sure_0 rfl op_54
theorem dX7_sure_21 : decode cX7_sure 21 = .ok (.iconst 0, 1) := dc0 (j := 21) sX7_sure_0 rfl op_3
theorem dX7_sure_22 : decode cX7_sure 22 = .ok (.istore 5, 2) := dcA (j := 22) (f := Instr.istore) sX7_sure_0 rfl op_54
theorem dX7_sure_24 : decode cX7_sure 24 = .ok (.iconst 0, 1) := dc0 (j := 24) sX7_sure_0 rfl op_3
theorem dX7_sure_25 : decode cX7_sure 25 = .ok (.istore 6, 2) := dcA (j := 25) (f := Instr.istore) sX7_sure_0 rfl op_54
theorem dX7_sure_27 : decode cX7_sure 27 = .ok (.iload 6, 2) := dcA (j := 27) (f := Instr.iload) sX7_sure_0 rfl op_21
theorem dX7_sure_29 : decode cX7_sure 29 = .ok (.aload_n 0, 1) := dc0 (j := 29) sX7_sure_0 rfl op_42
theorem dX7_sure_30 : decode cX7_sure 30 = .ok (.getfield 10, 3) := dcB (j := 30) (f := Instr.getfield) sX7_sure_0 rfl op_180 rfl
theorem dX7_sure_33 : decode cX7_sure 33 = .ok (.invokevirtual 233, 3) := dcB (j := 33) (f := Instr.invokevirtual) sX7_sure_0 rfl op_182 rfl
theorem sX7_sure_36 : sgm cX7_sure 36 [163, 0, 48, 42, 180, 0, 10, 42, 180, 0, 29, 27, 50, 21, 6, 182, 0, 252, 153, 0, 24, 4, 54, 5, 21, 4, 28, 153, 0, 8, 21, 6, 167, 0, 7] := by decide +kernel
theorem dX7_sure_36 : decode cX7_sure 36 = .ok (.if_icmp .gt 48, 3) := dcTp (j := 0) (v := 48) (f := Instr.if_icmp .gt) sX7_sure_36 rfl op_163 rfl rfl
theorem dX7_sure_39 : decode cX7_sure 39 = .ok (.aload_n 0, 1) := dc0 (j := 3) sX7_sure_36 rfl op_42
theorem dX7_sure_40 : decode cX7_sure 40 = .ok (.getfield 10, 3) := dcB (j := 4) (f := Instr.getfield) sX7_sure_36 rfl op_180 rfl
theorem dX7_sure_43 : decode cX7_sure 43 = .ok (.aload_n 0, 1) := dc0 (j := 7) sX7_sure_36 rfl op_42
theorem dX7_sure_44 : decode cX7_sure 44 = .ok (.getfield 29, 3) := dcB (j := 8) (f := Instr.getfield) sX7_sure_36 rfl op_180 rfl
theorem dX7_sure_47 : decode cX7_sure 47 = .ok (.iload_n 1, 1) := dc0 (j := 11) sX7_sure_36 rfl op_27
theorem dX7_sure_48 : decode cX7_sure 48 = .ok (.aaload, 1) := dc0 (j := 12) sX7_sure_36 rfl op_50
theorem dX7_sure_49 : decode cX7_sure 49 = .ok (.iload 6, 2) := dcA (j := 13) (f := Instr.iload) sX7_sure_36 rfl op_21
theorem dX7_sure_51 : decode cX7_sure 51 = .ok (.invokevirtual 252, 3) := dcB (j := 15) (f := Instr.invokevirtual) sX7_sure_36 rfl op_182 rfl
theorem dX7_sure_54 : decode cX7_sure 54 = .ok (.ifCond .eq 24, 3) := dcTp (j := 18) (v := 24) (f := Instr.ifCond .eq) sX7_sure_36 rfl op_153 rfl rfl
theorem dX7_sure_57 : decode cX7_sure 57 = .ok (.iconst 1, 1) := dc0 (j := 21) sX7_sure_36 rfl op_4
theorem dX7_sure_58 : decode cX7_sure 58 = .ok (.istore 5, 2) := dcA (j := 22) (f := Instr.istore) sX7_sure_36 rfl op_54
theorem dX7_sure_60 : decode cX7_sure 60 = .ok (.iload 4, 2) := dcA (j := 24) (f := Instr.iload) sX7_sure_36 rfl op_21
theorem dX7_sure_62 : decode cX7_sure 62 = .ok (.iload_n 2, 1) := dc0 (j := 26) sX7_sure_36 rfl op_28
theorem dX7_sure_63 : decode cX7_sure 63 = .ok (.ifCond .eq 8, 3) := dcTp (j := 27) (v := 8) (f := Instr.ifCond .eq) sX7_sure_36 rfl op_153 rfl rfl
theorem dX7_sure_66 : decode cX7_sure 66 = .ok (.iload 6, 2) := dcA (j := 30) (f := Instr.iload) sX7_sure_36 rfl op_21
theorem dX7_sure_68 : decode cX7_sure 68 = .ok (.goto 7, 3) := dcTp (j := 32) (v := 7) (f := Instr.goto) sX7_sure_36 rfl op_167 rfl rfl
theorem sX7_sure_71 : sgm cX7_sure 71 [21, 6, 2, 130, 126, 54, 4, 132, 6, 1, 167, 255, 202, 21, 5, 153, 0, 8, 21, 4, 167, 0, 4, 3, 172] := by decide +kernel
theorem dX7_sure_71 : decode cX7_sure 71 = .ok (.iload 6, 2) := dcA (j := 0) (f := Instr.iload) sX7_sure_71 rfl op_21
theorem dX7_sure_73 : decode cX7_sure 73 = .ok (.iconst (-1), 1) := dc0 (j := 2) sX7_sure_71 rfl op_2
theorem dX7_sure_74 : decode cX7_sure 74 = .ok (.ixor, 1) := dc0 (j := 3) sX7_sure_71 rfl op_130
theorem dX7_sure_75 : decode cX7_sure 75 = .ok (.iand, 1) := dc0 (j := 4) sX7_sure_71 rfl op_126
theorem dX7_sure_76 : decode cX7_sure 76 = .ok (.istore 4, 2) := dcA (j := 5) (f := Instr.istore) sX7_sure_71 rfl op_54
theorem dX7_sure_78 : decode cX7_sure 78 = .ok (.iinc 6 1, 3) := dcIp (j := 7) sX7_sure_71 rfl op_132 rfl
theorem dX7_sure_81 : decode cX7_sure 81 = .ok (.goto (-54), 3) := dcTn (j := 10) (v := 54) (f := Instr.goto) sX7_sure_71 rfl op_167 rfl rfl rfl
theorem dX7_sure_84 : decode cX7_sure 84 = .ok (.iload 5, 2) := dcA (j := 13) (f := Instr.iload) sX7_sure_71 rfl op_21
theorem dX7_sure_86 : decode cX7_sure 86 = .ok (.ifCond .eq 8, 3) := dcTp (j := 15) (v := 8) (f := Instr.ifCond .eq) sX7_sure_71 rfl op_153 rfl rfl
theorem dX7_sure_89 : decode cX7_sure 89 = .ok (.iload 4, 2) := dcA (j := 18) (f := Instr.iload) sX7_sure_71 rfl op_21
theorem dX7_sure_91 : decode cX7_sure 91 = .ok (.goto 4, 3) := dcTp (j := 20) (v := 4) (f := Instr.goto) sX7_sure_71 rfl op_167 rfl rfl
theorem dX7_sure_94 : decode cX7_sure 94 = .ok (.iconst 0, 1) := dc0 (j := 23) sX7_sure_71 rfl op_3
theorem dX7_sure_95 : decode cX7_sure 95 = .ok (.ireturn, 1) := dc0 (j := 24) sX7_sure_71 rfl op_172
theorem sX7_ropes_0 : sgm cX7_ropes 0 [27, 153, 0, 20, 42, 180, 0, 10, 27, 16, 10, 100, 182, 0, 91, 154, 0, 6, 16, 254, 172, 42, 180, 0, 10, 180, 0, 184, 16, 7, 164, 0, 6, 16, 252, 172] := by decide +kernel
theorem dX7_ropes_0 : decode cX7_ropes 0 = .ok (.iload_n 1, 1) := dc0 (j := 0) sX7_ropes_0 rfl op_27
theorem dX7_ropes_1 : decode cX7_ropes 1 = .ok (.ifCond .eq 20, 3) := dcTp (j := 1) (v := 20) (f := Instr.ifCond .eq) sX7_ropes_0 rfl op_153 rfl rfl
theorem dX7_ropes_4 : decode cX7_ropes 4 = .ok (.aload_n 0, 1) := dc0 (j := 4) sX7_ropes_0 rfl op_42
theorem dX7_ropes_5 : decode cX7_ropes 5 = .ok (.getfield 10, 3) := dcB (j := 5) (f := Instr.getfield) sX7_ropes_0 rfl op_180 rfl
theorem dX7_ropes_8 : decode cX7_ropes 8 = .ok (.iload_n 1, 1) := dc0 (j := 8) sX7_ropes_0 rfl op_27
theorem dX7_ropes_9 : decode cX7_ropes 9 = .ok (.bipush 10, 2) := dcSp (j := 9) (a := 10) (f := Instr.bipush) sX7_ropes_0 rfl op_16 rfl
theorem dX7_ropes_11 : decode cX7_ropes 11 = .ok (.isub, 1) := dc0 (j := 11) sX7_ropes_0 rfl op_100
theorem dX7_ropes_12 : decode cX7_ropes 12 = .ok (.invokevirtual 91, 3) := dcB (j := 12) (f := Instr.invokevirtual) sX7_ropes_0 rfl op_182 rfl
theorem dX7_ropes_15 : decode cX7_ropes 15 = .ok (.ifCond .ne 6, 3) := dcTp (j := 15) (v := 6) (f := Instr.ifCond .ne) sX7_ropes_0 rfl op_154 rfl rfl
theorem dX7_ropes_18 : decode cX7_ropes 18 = .ok (.bipush (-2), 2) := dcSn (j := 18) (v := 2) (f := Instr.bipush) sX7_ropes_0 rfl op_16 rfl rfl rfl
theorem dX7_ropes_20 : decode cX7_ropes 20 = .ok (.ireturn, 1) := dc0 (j := 20) sX7_ropes_0 rfl op_172
theorem dX7_ropes_21 : decode cX7_ropes 21 = .ok (.aload_n 0, 1) := dc0 (j := 21) sX7_ropes_0 rfl op_42
theorem dX7_ropes_22 : decode cX7_ropes 22 = .ok (.getfield 10, 3) := dcB (j := 22) (f := Instr.getfield) sX7_ropes_0 rfl op_180 rfl
theorem dX7_ropes_25 : decode cX7_ropes 25 = .ok (.getfield 184, 3) := dcB (j := 25) (f := Instr.getfield) sX7_ropes_0 rfl op_180 rfl
theorem dX7_ropes_28 : decode cX7_ropes 28 = .ok (.bipush 7, 2) := dcSp (j := 28) (a := 7) (f := Instr.bipush) sX7_ropes_0 rfl op_16 rfl
theorem dX7_ropes_30 : decode cX7_ropes 30 = .ok (.if_icmp .le 6, 3) := dcTp (j := 30) (v := 6) (f := Instr.if_icmp .le) sX7_ropes_0 rfl op_164 rfl rfl
theorem dX7_ropes_33 : decode cX7_ropes 33 = .ok (.bipush (-4), 2) := dcSn (j := 33) (v := 4) (f := Instr.bipush) sX7_ropes_0 rfl op_16 rfl rfl rfl
theorem dX7_ropes_35 : decode cX7_ropes 35 = .ok (.ireturn, 1) := dc0 (j := 35) sX7_ropes_0 rfl op_172
theorem sX7_ropes_36 : sgm cX7_ropes 36 [42, 180, 0, 10, 180, 0, 184, 154, 0, 6, 16, 251, 172, 42, 180, 0, 57, 42, 180, 0, 10, 182, 1, 0, 27, 154, 0, 13, 42, 180, 0, 57, 180, 1, 3] := by decide +kernel
theorem dX7_ropes_36 : decode cX7_ropes 36 = .ok (.aload_n 0, 1) := dc0 (j := 0) sX7_ropes_36 rfl op_42
theorem dX7_ropes_37 : decode cX7_ropes 37 = .ok (.getfield 10, 3) := dcB (j := 1) (f := Instr.getfield) sX7_ropes_36 rfl op_180 rfl
theorem dX7_ropes_40 : decode cX7_ropes 40 = .ok (.getfield 184, 3) := dcB (j := 4) (f := Instr.getfield) sX7_ropes_36 rfl op_180 rfl
theorem dX7_ropes_43 : decode cX7_ropes 43 = .ok (.ifCond .ne 6, 3) := dcTp (j := 7) (v := 6) (f := Instr.ifCond .ne) sX7_ropes_36 rfl op_154 rfl rfl
theorem dX7_ropes_46 : decode cX7_ropes 46 = .ok (.bipush (-5), 2) := dcSn (j := 10) (v := 5) (f := Instr.bipush) sX7_ropes_36 rfl op_16 rfl rfl rfl
theorem dX7_ropes_48 : decode cX7_ropes 48 = .ok (.ireturn, 1) := dc0 (j := 12) sX7_ropes_36 rfl op_172
theorem dX7_ropes_49 : decode cX7_ropes 49 = .ok (.aload_n 0, 1) := dc0 (j := 13) sX7_ropes_36 rfl op_42
theorem dX7_ropes_50 : decode cX7_ropes 50 = .ok (.getfield 57, 3) := dcB (j := 14) (f := Instr.getfield) sX7_ropes_36 rfl op_180 rfl
theorem dX7_ropes_53 : decode cX7_ropes 53 = .ok (.aload_n 0, 1) := dc0 (j := 17) sX7_ropes_36 rfl op_42
theorem dX7_ropes_54 : decode cX7_ropes 54 = .ok (.getfield 10, 3) := dcB (j := 18) (f := Instr.getfield) sX7_ropes_36 rfl op_180 rfl
theorem dX7_ropes_57 : decode cX7_ropes 57 = .ok (.invokevirtual 256, 3) := dcB (j := 21) (f := Instr.invokevirtual) sX7_ropes_36 rfl op_182 rfl
theorem dX7_ropes_60 : decode cX7_ropes 60 = .ok (.iload_n 1, 1) := dc0 (j := 24) sX7_ropes_36 rfl op_27
theorem dX7_ropes_61 : decode cX7_ropes 61 = .ok (.ifCond .ne 13, 3) := dcTp (j := 25) (v := 13) (f := Instr.ifCond .ne) sX7_ropes_36 rfl op_154 rfl rfl
theorem dX7_ropes_64 : decode cX7_ropes 64 = .ok (.aload_n 0, 1) := dc0 (j := 28) sX7_ropes_36 rfl op_42
theorem dX7_ropes_65 : decode cX7_ropes 65 = .ok (.getfield 57, 3) := dcB (j := 29) (f := Instr.getfield) sX7_ropes_36 rfl op_180 rfl
theorem dX7_ropes_68 : decode cX7_ropes 68 = .ok (.getfield 259, 3) := dcB (j := 32) (f := Instr.getfield) sX7_ropes_36 rfl op_180 rfl
theorem sX7_ropes_71 : sgm cX7_ropes 71 [167, 0, 15, 42, 180, 0, 57, 180, 1, 6, 27, 16, 10, 100, 46, 172] := by decide +kernel
theorem dX7_ropes_71 : decode cX7_ropes 71 = .ok (.goto 15, 3) := dcTp (j := 0) (v := 15) (f := Instr.goto) sX7_ropes_71 rfl op_167 rfl rfl
theorem dX7_ropes_74 : decode cX7_ropes 74 = .ok (.aload_n 0, 1) := dc0 (j := 3) sX7_ropes_71 rfl op_42
theorem dX7_ropes_75 : decode cX7_ropes 75 = .ok (.getfield 57, 3) := dcB (j := 4) (f := Instr.getfield) sX7_ropes_71 rfl op_180 rfl
theorem dX7_ropes_78 : decode cX7_ropes 78 = .ok (.getfield 262, 3) := dcB (j := 7) (f := Instr.getfield) sX7_ropes_71 rfl op_180 rfl
theorem dX7_ropes_81 : decode cX7_ropes 81 = .ok (.iload_n 1, 1) := dc0 (j := 10) sX7_ropes_71 rfl op_27
theorem dX7_ropes_82 : decode cX7_ropes 82 = .ok (.bipush 10, 2) := dcSp (j := 11) (a := 10) (f := Instr.bipush) sX7_ropes_71 rfl op_16 rfl
theorem dX7_ropes_84 : decode cX7_ropes 84 = .ok (.isub, 1) := dc0 (j := 13) sX7_ropes_71 rfl op_100
theorem dX7_ropes_85 : decode cX7_ropes 85 = .ok (.iaload, 1) := dc0 (j := 14) sX7_ropes_71 rfl op_46
theorem dX7_ropes_86 : decode cX7_ropes 86 = .ok (.ireturn, 1) := dc0 (j := 15) sX7_ropes_71 rfl op_172
theorem sX7_lazy_0 : sgm cX7_lazy 0 [42, 180, 0, 10, 27, 182, 0, 91, 154, 0, 6, 16, 254, 172, 42, 28, 17, 0, 200, 182, 0, 174, 62, 29, 153, 0, 5, 29, 172, 42, 28, 3, 2, 3] := by decide +kernel
theorem dX7_lazy_0 : decode cX7_lazy 0 = .ok (.aload_n 0, 1) := dc0 (j := 0) sX7_lazy_0 rfl op_42
theorem dX7_lazy_1 : decode cX7_lazy 1 = .ok (.getfield 10, 3) := dcB (j := 1) (f := Instr.getfield) sX7_lazy_0 rfl op_180 rfl
theorem dX7_lazy_4 : decode cX7_lazy 4 = .ok (.iload_n 1, 1) := dc0 (j := 4) sX7_lazy_0 rfl op_27
theorem dX7_lazy_5 : decode cX7_lazy 5 = .ok (.invokevirtual 91, 3) := dcB (j := 5) (f := Instr.invokevirtual) sX7_lazy_0 rfl op_182 rfl
theorem dX7_lazy_8 : decode cX7_lazy 8 = .ok (.ifCond .ne 6, 3) := dcTp (j := 8) (v := 6) (f := Instr.ifCond .ne) sX7_lazy_0 rfl op_154 rfl rfl
theorem dX7_lazy_11 : decode cX7_lazy 11 = .ok (.bipush (-2), 2) := dcSn (j := 11) (v := 2) (f := Instr.bipush) sX7_lazy_0 rfl op_16 rfl rfl rfl
theorem dX7_lazy_13 : decode cX7_lazy 13 = .ok (.ireturn, 1) := dc0 (j := 13) sX7_lazy_0 rfl op_172
theorem dX7_lazy_14 : decode cX7_lazy 14 = .ok (.aload_n 0, 1) := dc0 (j := 14) sX7_lazy_0 rfl op_42
theorem dX7_lazy_15 : decode cX7_lazy 15 = .ok (.iload_n 2, 1) := dc0 (j := 15) sX7_lazy_0 rfl op_28
theorem dX7_lazy_16 : decode cX7_lazy 16 = .ok (.sipush 200, 3) := dcTp (j := 16) (v := 200) (f := Instr.sipush) sX7_lazy_0 rfl op_17 rfl rfl
theorem dX7_lazy_19 : decode cX7_lazy 19 = .ok (.invokevirtual 174, 3) := dcB (j := 19) (f := Instr.invokevirtual) sX7_lazy_0 rfl op_182 rfl
theorem dX7_lazy_22 : decode cX7_lazy 22 = .ok (.istore_n 3, 1) := dc0 (j := 22) sX7_lazy_0 rfl op_62
theorem dX7_lazy_23 : decode cX7_lazy 23 = .ok (.iload_n 3, 1) := dc0 (j := 23) sX7_lazy_0 rfl op_29
theorem dX7_lazy_24 : decode cX7_lazy 24 = .ok (.ifCond .eq 5, 3) := dcTp (j := 24) (v := 5) (f := Instr.ifCond .eq) sX7_lazy_0 rfl op_153 rfl rfl
theorem dX7_lazy_27 : decode cX7_lazy 27 = .ok (.iload_n 3, 1) := dc0 (j := 27) sX7_lazy_0 rfl op_29
theorem dX7_lazy_28 : decode cX7_lazy 28 = .ok (.ireturn, 1) := dc0 (j := 28) sX7_lazy_0 rfl op_172
theorem dX7_lazy_29 : decode cX7_lazy 29 = .ok (.aload_n 0, 1) := dc0 (j := 29) sX7_lazy_0 rfl op_42
theorem dX7_lazy_30 : decode cX7_lazy 30 = .ok (.iload_n 2, 1) := dc0 (j := 30) sX7_lazy_0 rfl op_28
theorem dX7_lazy_31 : decode cX7_lazy 31 = .ok (.iconst 0, 1) := dc0 (j := 31) sX7_lazy_0 rfl op_3
theorem dX7_lazy_32 : decode cX7_lazy 32 = .ok (.iconst (-1), 1) := dc0 (j := 32) sX7_lazy_0 rfl op_2
theorem dX7_lazy_33 : decode cX7_lazy 33 = .ok (.iconst 0, 1) := dc0 (j := 33) sX7_lazy_0 rfl op_3
theorem sX7_lazy_34 : sgm cX7_lazy 34 [182, 0, 178, 42, 28, 4, 27, 120, 2, 3, 182, 0, 178, 100, 172] := by decide +kernel
theorem dX7_lazy_34 : decode cX7_lazy 34 = .ok (.invokevirtual 178, 3) := dcB (j := 0) (f := Instr.invokevirtual) sX7_lazy_34 rfl op_182 rfl
theorem dX7_lazy_37 : decode cX7_lazy 37 = .ok (.aload_n 0, 1) := dc0 (j := 3) sX7_lazy_34 rfl op_42
theorem dX7_lazy_38 : decode cX7_lazy 38 = .ok (.iload_n 2, 1) := dc0 (j := 4) sX7_lazy_34 rfl op_28
theorem dX7_lazy_39 : decode cX7_lazy 39 = .ok (.iconst 1, 1) := dc0 (j := 5) sX7_lazy_34 rfl op_4
theorem dX7_lazy_40 : decode cX7_lazy 40 = .ok (.iload_n 1, 1) := dc0 (j := 6) sX7_lazy_34 rfl op_27
theorem dX7_lazy_41 : decode cX7_lazy 41 = .ok (.ishl, 1) := dc0 (j := 7) sX7_lazy_34 rfl op_120
theorem dX7_lazy_42 : decode cX7_lazy 42 = .ok (.iconst (-1), 1) := dc0 (j := 8) sX7_lazy_34 rfl op_2
theorem dX7_lazy_43 : decode cX7_lazy 43 = .ok (.iconst 0, 1) := dc0 (j := 9) sX7_lazy_34 rfl op_3
theorem dX7_lazy_44 : decode cX7_lazy 44 = .ok (.invokevirtual 178, 3) := dcB (j := 10) (f := Instr.invokevirtual) sX7_lazy_34 rfl op_182 rfl
theorem dX7_lazy_47 : decode cX7_lazy 47 = .ok (.isub, 1) := dc0 (j := 13) sX7_lazy_34 rfl op_100
theorem dX7_lazy_48 : decode cX7_lazy 48 = .ok (.ireturn, 1) := dc0 (j := 14) sX7_lazy_34 rfl op_172
theorem sX7_stranger_0 : sgm cX7_stranger 0 [42, 180, 0, 10, 27, 182, 0, 91, 154, 0, 6, 16, 254, 172, 42, 28, 29, 182, 1, 7, 54, 4, 21, 4, 153, 0, 6, 21, 4, 172, 42, 29, 3, 42] := by decide +kernel
theorem dX7_stranger_0 : decode cX7_stranger 0 = .ok (.aload_n 0, 1) := dc0 (j := 0) sX7_stranger_0 rfl op_42
theorem dX7_stranger_1 : decode cX7_stranger 1 = .ok (.getfield 10, 3) := dcB (j := 1) (f := Instr.getfield) sX7_stranger_0 rfl op_180 rfl
theorem dX7_stranger_4 : decode cX7_stranger 4 = .ok (.iload_n 1, 1) := dc0 (j := 4) sX7_stranger_0 rfl op_27
theorem dX7_stranger_5 : decode cX7_stranger 5 = .ok (.invokevirtual 91, 3) := dcB (j := 5) (f := Instr.invokevirtual) sX7_stranger_0 rfl op_182 rfl
theorem dX7_stranger_8 : decode cX7_stranger 8 = .ok (.ifCond .ne 6, 3) := dcTp (j := 8) (v := 6) (f := Instr.ifCond .ne) sX7_stranger_0 rfl op_154 rfl rfl
theorem dX7_stranger_11 : decode cX7_stranger 11 = .ok (.bipush (-2), 2) := dcSn (j := 11) (v := 2) (f := Instr.bipush) sX7_stranger_0 rfl op_16 rfl rfl rfl
theorem dX7_stranger_13 : decode cX7_stranger 13 = .ok (.ireturn, 1) := dc0 (j := 13) sX7_stranger_0 rfl op_172
theorem dX7_stranger_14 : decode cX7_stranger 14 = .ok (.aload_n 0, 1) := dc0 (j := 14) sX7_stranger_0 rfl op_42
theorem dX7_stranger_15 : decode cX7_stranger 15 = .ok (.iload_n 2, 1) := dc0 (j := 15) sX7_stranger_0 rfl op_28
theorem dX7_stranger_16 : decode cX7_stranger 16 = .ok (.iload_n 3, 1) := dc0 (j := 16) sX7_stranger_0 rfl op_29
theorem dX7_stranger_17 : decode cX7_stranger 17 = .ok (.invokevirtual 263, 3) := dcB (j := 17) (f := Instr.invokevirtual) sX7_stranger_0 rfl op_182 rfl
theorem dX7_stranger_20 : decode cX7_stranger 20 = .ok (.istore 4, 2) := dcA (j := 20) (f := Instr.istore) sX7_stranger_0 rfl op_54
theorem dX7_stranger_22 : decode cX7_stranger 22 = .ok (.iload 4, 2) := dcA (j := 22) (f := Instr.iload) sX7_stranger_0 rfl op_21
theorem dX7_stranger_24 : decode cX7_stranger 24 = .ok (.ifCond .eq 6, 3) := dcTp (j := 24) (v := 6) (f := Instr.ifCond .eq) sX7_stranger_0 rfl op_153 rfl rfl
theorem dX7_stranger_27 : decode cX7_stranger 27 = .ok (.iload 4, 2) := dcA (j := 27) (f := Instr.iload) sX7_stranger_0 rfl op_21
theorem dX7_stranger_29 : decode cX7_stranger 29 = .ok (.ireturn, 1) := dc0 (j := 29) sX7_stranger_0 rfl op_172
theorem dX7_stranger_30 : decode cX7_stranger 30 = .ok (.aload_n 0, 1) := dc0 (j := 30) sX7_stranger_0 rfl op_42
theorem dX7_stranger_31 : decode cX7_stranger 31 = .ok (.iload_n 3, 1) := dc0 (j := 31) sX7_stranger_0 rfl op_29
theorem dX7_stranger_32 : decode cX7_stranger 32 = .ok (.iconst 0, 1) := dc0 (j := 32) sX7_stranger_0 rfl op_3
theorem dX7_stranger_33 : decode cX7_stranger 33 = .ok (.aload_n 0, 1) := dc0 (j := 33) sX7_stranger_0 rfl op_42
theorem sX7_stranger_34 : sgm cX7_stranger 34 [180, 0, 10, 180, 0, 120, 27, 46, 28, 182, 0, 178, 42, 29, 3, 2, 3, 182, 0, 178, 100, 172] := by decide +kernel
theorem dX7_stranger_34 : decode cX7_stranger 34 = .ok (.getfield 10, 3) := dcB (j := 0) (f := Instr.getfield) sX7_stranger_34 rfl op_180 rfl
theorem dX7_stranger_37 : decode cX7_stranger 37 = .ok (.getfield 120, 3) := dcB (j := 3) (f := Instr.getfield) sX7_stranger_34 rfl op_180 rfl
theorem dX7_stranger_40 : decode cX7_stranger 40 = .ok (.iload_n 1, 1) := dc0 (j := 6) sX7_stranger_34 rfl op_27
theorem dX7_stranger_41 : decode cX7_stranger 41 = .ok (.iaload, 1) := dc0 (j := 7) sX7_stranger_34 rfl op_46
theorem dX7_stranger_42 : decode cX7_stranger 42 = .ok (.iload_n 2, 1) := dc0 (j := 8) sX7_stranger_34 rfl op_28
theorem dX7_stranger_43 : decode cX7_stranger 43 = .ok (.invokevirtual 178, 3) := dcB (j := 9) (f := Instr.invokevirtual) sX7_stranger_34 rfl op_182 rfl
theorem dX7_stranger_46 : decode cX7_stranger 46 = .ok (.aload_n 0, 1) := dc0 (j := 12) sX7_stranger_34 rfl op_42
theorem dX7_stranger_47 : decode cX7_stranger 47 = .ok (.iload_n 3, 1) := dc0 (j := 13) sX7_stranger_34 rfl op_29
theorem dX7_stranger_48 : decode cX7_stranger 48 = .ok (.iconst 0, 1) := dc0 (j := 14) sX7_stranger_34 rfl op_3
theorem dX7_stranger_49 : decode cX7_stranger 49 = .ok (.iconst (-1), 1) := dc0 (j := 15) sX7_stranger_34 rfl op_2
theorem dX7_stranger_50 : decode cX7_stranger 50 = .ok (.iconst 0, 1) := dc0 (j := 16) sX7_stranger_34 rfl op_3
theorem dX7_stranger_51 : decode cX7_stranger 51 = .ok (.invokevirtual 178, 3) := dcB (j := 17) (f := Instr.invokevirtual) sX7_stranger_34 rfl op_182 rfl
theorem dX7_stranger_54 : decode cX7_stranger 54 = .ok (.isub, 1) := dc0 (j := 20) sX7_stranger_34 rfl op_100
theorem dX7_stranger_55 : decode cX7_stranger 55 = .ok (.ireturn, 1) := dc0 (j := 21) sX7_stranger_34 rfl op_172
theorem sX7_bestPlace_0 : sgm cX7_bestPlace 0 [42, 180, 0, 10, 180, 0, 184, 154, 0, 5, 2, 172, 42, 27, 28, 182, 1, 7, 62, 29, 153, 0, 5, 29, 172, 3, 54, 4, 2, 54, 5, 3, 54, 6, 21, 6] := by decide +kernel
theorem dX7_bestPlace_0 : decode cX7_bestPlace 0 = .ok (.aload_n 0, 1) := dc0 (j := 0) sX7_bestPlace_0 rfl op_42
theorem dX7_bestPlace_1 : decode cX7_bestPlace 1 = .ok (.getfield 10, 3) := dcB (j := 1) (f := Instr.getfield) sX7_bestPlace_0 rfl op_180 rfl
theorem dX7_bestPlace_4 : decode cX7_bestPlace 4 = .ok (.getfield 184, 3) := dcB (j := 4) (f := Instr.getfield) sX7_bestPlace_0 rfl op_180 rfl
theorem dX7_bestPlace_7 : decode cX7_bestPlace 7 = .ok (.ifCond .ne 5, 3) := dcTp (j := 7) (v := 5) (f := Instr.ifCond .ne) sX7_bestPlace_0 rfl op_154 rfl rfl
theorem dX7_bestPlace_10 : decode cX7_bestPlace 10 = .ok (.iconst (-1), 1) := dc0 (j := 10) sX7_bestPlace_0 rfl op_2
theorem dX7_bestPlace_11 : decode cX7_bestPlace 11 = .ok (.ireturn, 1) := dc0 (j := 11) sX7_bestPlace_0 rfl op_172
theorem dX7_bestPlace_12 : decode cX7_bestPlace 12 = .ok (.aload_n 0, 1) := dc0 (j := 12) sX7_bestPlace_0 rfl op_42
theorem dX7_bestPlace_13 : decode cX7_bestPlace 13 = .ok (.iload_n 1, 1) := dc0 (j := 13) sX7_bestPlace_0 rfl op_27
theorem dX7_bestPlace_14 : decode cX7_bestPlace 14 = .ok (.iload_n 2, 1) := dc0 (j := 14) sX7_bestPlace_0 rfl op_28
theorem dX7_bestPlace_15 : decode cX7_bestPlace 15 = .ok (.invokevirtual 263, 3) := dcB (j := 15) (f := Instr.invokevirtual) sX7_bestPlace_0 rfl op_182 rfl
theorem dX7_bestPlace_18 : decode cX7_bestPlace 18 = .ok (.istore_n 3, 1) := dc0 (j := 18) sX7_bestPlace_0 rfl op_62
theorem dX7_bestPlace_19 : decode cX7_bestPlace 19 = .ok (.iload_n 3, 1) := dc0 (j := 19) sX7_bestPlace_0 rfl op_29
theorem dX7_bestPlace_20 : decode cX7_bestPlace 20 = .ok (.ifCond .eq 5, 3) := dcTp (j := 20) (v := 5) (f := Instr.ifCond .eq) sX7_bestPlace_0 rfl op_153 rfl rfl
theorem dX7_bestPlace_23 : decode cX7_bestPlace 23 = .ok (.iload_n 3, 1) := dc0 (j := 23) sX7_bestPlace_0 rfl op_29
theorem dX7_bestPlace_24 : decode cX7_bestPlace 24 = .ok (.ireturn, 1) := dc0 (j := 24) sX7_bestPlace_0 rfl op_172
theorem dX7_bestPlace_25 : decode cX7_bestPlace 25 = .ok (.iconst 0, 1) := dc0 (j := 25) sX7_bestPlace_0 rfl op_3
theorem dX7_bestPlace_26 : decode cX7_bestPlace 26 = .ok (.istore 4, 2) := dcA (j := 26) (f := Instr.istore) sX7_bestPlace_0 rfl op_54
theorem dX7_bestPlace_28 : decode cX7_bestPlace 28 = .ok (.iconst (-1), 1) := dc0 (j := 28) sX7_bestPlace_0 rfl op_2
theorem dX7_bestPlace_29 : decode cX7_bestPlace 29 = .ok (.istore 5, 2) := dcA (j := 29) (f := Instr.istore) sX7_bestPlace_0 rfl op_54
theorem dX7_bestPlace_31 : decode cX7_bestPlace 31 = .ok (.iconst 0, 1) := dc0 (j := 31) sX7_bestPlace_0 rfl op_3
theorem dX7_bestPlace_32 : decode cX7_bestPlace 32 = .ok (.istore 6, 2) := dcA (j := 32) (f := Instr.istore) sX7_bestPlace_0 rfl op_54
theorem dX7_bestPlace_34 : decode cX7_bestPlace 34 = .ok (.iload 6, 2) := dcA (j := 34) (f := Instr.iload) sX7_bestPlace_0 rfl op_21
theorem sX7_bestPlace_36 : sgm cX7_bestPlace 36 [42, 180, 0, 10, 180, 0, 184, 162, 0, 43, 42, 28, 3, 42, 180, 0, 10, 180, 0, 120, 21, 6, 46, 27, 182, 0, 178, 54, 7, 21, 7, 21, 5, 164, 0, 11] := by decide +kernel
theorem dX7_bestPlace_36 : decode cX7_bestPlace 36 = .ok (.aload_n 0, 1) := dc0 (j := 0) sX7_bestPlace_36 rfl op_42
theorem dX7_bestPlace_37 : decode cX7_bestPlace 37 = .ok (.getfield 10, 3) := dcB (j := 1) (f := Instr.getfield) sX7_bestPlace_36 rfl op_180 rfl
theorem dX7_bestPlace_40 : decode cX7_bestPlace 40 = .ok (.getfield 184, 3) := dcB (j := 4) (f := Instr.getfield) sX7_bestPlace_36 rfl op_180 rfl
theorem dX7_bestPlace_43 : decode cX7_bestPlace 43 = .ok (.if_icmp .ge 43, 3) := dcTp (j := 7) (v := 43) (f := Instr.if_icmp .ge) sX7_bestPlace_36 rfl op_162 rfl rfl
theorem dX7_bestPlace_46 : decode cX7_bestPlace 46 = .ok (.aload_n 0, 1) := dc0 (j := 10) sX7_bestPlace_36 rfl op_42
theorem dX7_bestPlace_47 : decode cX7_bestPlace 47 = .ok (.iload_n 2, 1) := dc0 (j := 11) sX7_bestPlace_36 rfl op_28
theorem dX7_bestPlace_48 : decode cX7_bestPlace 48 = .ok (.iconst 0, 1) := dc0 (j := 12) sX7_bestPlace_36 rfl op_3
theorem dX7_bestPlace_49 : decode cX7_bestPlace 49 = .ok (.aload_n 0, 1) := dc0 (j := 13) sX7_bestPlace_36 rfl op_42
theorem dX7_bestPlace_50 : decode cX7_bestPlace 50 = .ok (.getfield 10, 3) := dcB (j := 14) (f := Instr.getfield) sX7_bestPlace_36 rfl op_180 rfl
theorem dX7_bestPlace_53 : decode cX7_bestPlace 53 = .ok (.getfield 120, 3) := dcB (j := 17) (f := Instr.getfield) sX7_bestPlace_36 rfl op_180 rfl
theorem dX7_bestPlace_56 : decode cX7_bestPlace 56 = .ok (.iload 6, 2) := dcA (j := 20) (f := Instr.iload) sX7_bestPlace_36 rfl op_21
theorem dX7_bestPlace_58 : decode cX7_bestPlace 58 = .ok (.iaload, 1) := dc0 (j := 22) sX7_bestPlace_36 rfl op_46
theorem dX7_bestPlace_59 : decode cX7_bestPlace 59 = .ok (.iload_n 1, 1) := dc0 (j := 23) sX7_bestPlace_36 rfl op_27
theorem dX7_bestPlace_60 : decode cX7_bestPlace 60 = .ok (.invokevirtual 178, 3) := dcB (j := 24) (f := Instr.invokevirtual) sX7_bestPlace_36 rfl op_182 rfl
theorem dX7_bestPlace_63 : decode cX7_bestPlace 63 = .ok (.istore 7, 2) := dcA (j := 27) (f := Instr.istore) sX7_bestPlace_36 rfl op_54
theorem dX7_bestPlace_65 : decode cX7_bestPlace 65 = .ok (.iload 7, 2) := dcA (j := 29) (f := Instr.iload) sX7_bestPlace_36 rfl op_21
theorem dX7_bestPlace_67 : decode cX7_bestPlace 67 = .ok (.iload 5, 2) := dcA (j := 31) (f := Instr.iload) sX7_bestPlace_36 rfl op_21
theorem dX7_bestPlace_69 : decode cX7_bestPlace 69 = .ok (.if_icmp .le 11, 3) := dcTp (j := 33) (v := 11) (f := Instr.if_icmp .le) sX7_bestPlace_36 rfl op_164 rfl rfl
theorem sX7_bestPlace_72 : sgm cX7_bestPlace 72 [21, 7, 54, 5, 21, 6, 54, 4, 132, 6, 1, 167, 255, 207, 21, 4, 172] := by decide +kernel
theorem dX7_bestPlace_72 : decode cX7_bestPlace 72 = .ok (.iload 7, 2) := dcA (j := 0) (f := Instr.iload) sX7_bestPlace_72 rfl op_21
theorem dX7_bestPlace_74 : decode cX7_bestPlace 74 = .ok (.istore 5, 2) := dcA (j := 2) (f := Instr.istore) sX7_bestPlace_72 rfl op_54
theorem dX7_bestPlace_76 : decode cX7_bestPlace 76 = .ok (.iload 6, 2) := dcA (j := 4) (f := Instr.iload) sX7_bestPlace_72 rfl op_21
theorem dX7_bestPlace_78 : decode cX7_bestPlace 78 = .ok (.istore 4, 2) := dcA (j := 6) (f := Instr.istore) sX7_bestPlace_72 rfl op_54
theorem dX7_bestPlace_80 : decode cX7_bestPlace 80 = .ok (.iinc 6 1, 3) := dcIp (j := 8) sX7_bestPlace_72 rfl op_132 rfl
theorem dX7_bestPlace_83 : decode cX7_bestPlace 83 = .ok (.goto (-49), 3) := dcTn (j := 11) (v := 49) (f := Instr.goto) sX7_bestPlace_72 rfl op_167 rfl rfl rfl
theorem dX7_bestPlace_86 : decode cX7_bestPlace 86 = .ok (.iload 4, 2) := dcA (j := 14) (f := Instr.iload) sX7_bestPlace_72 rfl op_21
theorem dX7_bestPlace_88 : decode cX7_bestPlace 88 = .ok (.ireturn, 1) := dc0 (j := 16) sX7_bestPlace_72 rfl op_172
theorem sX7_refusedStranger_0 : sgm cX7_refusedStranger 0 [27, 3, 16, 60, 184, 0, 70, 153, 0, 14, 42, 28, 17, 0, 200, 182, 0, 174, 167, 0, 5, 16, 253, 172] := by decide +kernel
theorem dX7_refusedStranger_0 : decode cX7_refusedStranger 0 = .ok (.iload_n 1, 1) := dc0 (j := 0) sX7_refusedStranger_0 rfl op_27
theorem dX7_refusedStranger_1 : decode cX7_refusedStranger 1 = .ok (.iconst 0, 1) := dc0 (j := 1) sX7_refusedStranger_0 rfl op_3
theorem dX7_refusedStranger_2 : decode cX7_refusedStranger 2 = .ok (.bipush 60, 2) := dcSp (j := 2) (a := 60) (f := Instr.bipush) sX7_refusedStranger_0 rfl op_16 rfl
theorem dX7_refusedStranger_4 : decode cX7_refusedStranger 4 = .ok (.invokestatic 70, 3) := dcB (j := 4) (f := Instr.invokestatic) sX7_refusedStranger_0 rfl op_184 rfl
theorem dX7_refusedStranger_7 : decode cX7_refusedStranger 7 = .ok (.ifCond .eq 14, 3) := dcTp (j := 7) (v := 14) (f := Instr.ifCond .eq) sX7_refusedStranger_0 rfl op_153 rfl rfl
theorem dX7_refusedStranger_10 : decode cX7_refusedStranger 10 = .ok (.aload_n 0, 1) := dc0 (j := 10) sX7_refusedStranger_0 rfl op_42
theorem dX7_refusedStranger_11 : decode cX7_refusedStranger 11 = .ok (.iload_n 2, 1) := dc0 (j := 11) sX7_refusedStranger_0 rfl op_28
theorem dX7_refusedStranger_12 : decode cX7_refusedStranger 12 = .ok (.sipush 200, 3) := dcTp (j := 12) (v := 200) (f := Instr.sipush) sX7_refusedStranger_0 rfl op_17 rfl rfl
theorem dX7_refusedStranger_15 : decode cX7_refusedStranger 15 = .ok (.invokevirtual 174, 3) := dcB (j := 15) (f := Instr.invokevirtual) sX7_refusedStranger_0 rfl op_182 rfl
theorem dX7_refusedStranger_18 : decode cX7_refusedStranger 18 = .ok (.goto 5, 3) := dcTp (j := 18) (v := 5) (f := Instr.goto) sX7_refusedStranger_0 rfl op_167 rfl rfl
theorem dX7_refusedStranger_21 : decode cX7_refusedStranger 21 = .ok (.bipush (-3), 2) := dcSn (j := 21) (v := 3) (f := Instr.bipush) sX7_refusedStranger_0 rfl op_16 rfl rfl rfl
theorem dX7_refusedStranger_23 : decode cX7_refusedStranger 23 = .ok (.ireturn, 1) := dc0 (j := 23) sX7_refusedStranger_0 rfl op_172
theorem sX7_swapped_0 : sgm cX7_swapped 0 [28, 3, 4, 184, 0, 70, 154, 0, 6, 16, 254, 172, 42, 27, 17, 0, 200, 182, 0, 174, 62, 29, 153, 0, 5, 29, 172, 42, 27, 3, 2, 3, 182, 0, 178] := by decide +kernel
theorem dX7_swapped_0 : decode cX7_swapped 0 = .ok (.iload_n 2, 1) := dc0 (j := 0) sX7_swapped_0 rfl op_28
theorem dX7_swapped_1 : decode cX7_swapped 1 = .ok (.iconst 0, 1) := dc0 (j := 1) sX7_swapped_0 rfl op_3
theorem dX7_swapped_2 : decode cX7_swapped 2 = .ok (.iconst 1, 1) := dc0 (j := 2) sX7_swapped_0 rfl op_4
theorem dX7_swapped_3 : decode cX7_swapped 3 = .ok (.invokestatic 70, 3) := dcB (j := 3) (f := Instr.invokestatic) sX7_swapped_0 rfl op_184 rfl
theorem dX7_swapped_6 : decode cX7_swapped 6 = .ok (.ifCond .ne 6, 3) := dcTp (j := 6) (v := 6) (f := Instr.ifCond .ne) sX7_swapped_0 rfl op_154 rfl rfl
theorem dX7_swapped_9 : decode cX7_swapped 9 = .ok (.bipush (-2), 2) := dcSn (j := 9) (v := 2) (f := Instr.bipush) sX7_swapped_0 rfl op_16 rfl rfl rfl
theorem dX7_swapped_11 : decode cX7_swapped 11 = .ok (.ireturn, 1) := dc0 (j := 11) sX7_swapped_0 rfl op_172
theorem dX7_swapped_12 : decode cX7_swapped 12 = .ok (.aload_n 0, 1) := dc0 (j := 12) sX7_swapped_0 rfl op_42
theorem dX7_swapped_13 : decode cX7_swapped 13 = .ok (.iload_n 1, 1) := dc0 (j := 13) sX7_swapped_0 rfl op_27
theorem dX7_swapped_14 : decode cX7_swapped 14 = .ok (.sipush 200, 3) := dcTp (j := 14) (v := 200) (f := Instr.sipush) sX7_swapped_0 rfl op_17 rfl rfl
theorem dX7_swapped_17 : decode cX7_swapped 17 = .ok (.invokevirtual 174, 3) := dcB (j := 17) (f := Instr.invokevirtual) sX7_swapped_0 rfl op_182 rfl
theorem dX7_swapped_20 : decode cX7_swapped 20 = .ok (.istore_n 3, 1) := dc0 (j := 20) sX7_swapped_0 rfl op_62
theorem dX7_swapped_21 : decode cX7_swapped 21 = .ok (.iload_n 3, 1) := dc0 (j := 21) sX7_swapped_0 rfl op_29
theorem dX7_swapped_22 : decode cX7_swapped 22 = .ok (.ifCond .eq 5, 3) := dcTp (j := 22) (v := 5) (f := Instr.ifCond .eq) sX7_swapped_0 rfl op_153 rfl rfl
theorem dX7_swapped_25 : decode cX7_swapped 25 = .ok (.iload_n 3, 1) := dc0 (j := 25) sX7_swapped_0 rfl op_29
theorem dX7_swapped_26 : decode cX7_swapped 26 = .ok (.ireturn, 1) := dc0 (j := 26) sX7_swapped_0 rfl op_172
theorem dX7_swapped_27 : decode cX7_swapped 27 = .ok (.aload_n 0, 1) := dc0 (j := 27) sX7_swapped_0 rfl op_42
theorem dX7_swapped_28 : decode cX7_swapped 28 = .ok (.iload_n 1, 1) := dc0 (j := 28) sX7_swapped_0 rfl op_27
theorem dX7_swapped_29 : decode cX7_swapped 29 = .ok (.iconst 0, 1) := dc0 (j := 29) sX7_swapped_0 rfl op_3
theorem dX7_swapped_30 : decode cX7_swapped 30 = .ok (.iconst (-1), 1) := dc0 (j := 30) sX7_swapped_0 rfl op_2
theorem dX7_swapped_31 : decode cX7_swapped 31 = .ok (.iconst 0, 1) := dc0 (j := 31) sX7_swapped_0 rfl op_3
theorem dX7_swapped_32 : decode cX7_swapped 32 = .ok (.invokevirtual 178, 3) := dcB (j := 32) (f := Instr.invokevirtual) sX7_swapped_0 rfl op_182 rfl
theorem sX7_swapped_35 : sgm cX7_swapped 35 [54, 4, 21, 4, 54, 5, 2, 54, 6, 3, 54, 7, 21, 7, 42, 180, 0, 10, 180, 0, 184, 162, 0, 65, 21, 7, 4, 96, 54, 8, 21, 8, 42, 180, 0, 10] := by decide +kernel
theorem dX7_swapped_35 : decode cX7_swapped 35 = .ok (.istore 4, 2) := dcA (j := 0) (f := Instr.istore) sX7_swapped_35 rfl op_54
theorem dX7_swapped_37 : decode cX7_swapped 37 = .ok (.iload 4, 2) := dcA (j := 2) (f := Instr.iload) sX7_swapped_35 rfl op_21
theorem dX7_swapped_39 : decode cX7_swapped 39 = .ok (.istore 5, 2) := dcA (j := 4) (f := Instr.istore) sX7_swapped_35 rfl op_54
theorem dX7_swapped_41 : decode cX7_swapped 41 = .ok (.iconst (-1), 1) := dc0 (j := 6) sX7_swapped_35 rfl op_2
theorem dX7_swapped_42 : decode cX7_swapped 42 = .ok (.istore 6, 2) := dcA (j := 7) (f := Instr.istore) sX7_swapped_35 rfl op_54
theorem dX7_swapped_44 : decode cX7_swapped 44 = .ok (.iconst 0, 1) := dc0 (j := 9) sX7_swapped_35 rfl op_3
theorem dX7_swapped_45 : decode cX7_swapped 45 = .ok (.istore 7, 2) := dcA (j := 10) (f := Instr.istore) sX7_swapped_35 rfl op_54
theorem dX7_swapped_47 : decode cX7_swapped 47 = .ok (.iload 7, 2) := dcA (j := 12) (f := Instr.iload) sX7_swapped_35 rfl op_21
theorem dX7_swapped_49 : decode cX7_swapped 49 = .ok (.aload_n 0, 1) := dc0 (j := 14) sX7_swapped_35 rfl op_42
theorem dX7_swapped_50 : decode cX7_swapped 50 = .ok (.getfield 10, 3) := dcB (j := 15) (f := Instr.getfield) sX7_swapped_35 rfl op_180 rfl
theorem dX7_swapped_53 : decode cX7_swapped 53 = .ok (.getfield 184, 3) := dcB (j := 18) (f := Instr.getfield) sX7_swapped_35 rfl op_180 rfl
theorem dX7_swapped_56 : decode cX7_swapped 56 = .ok (.if_icmp .ge 65, 3) := dcTp (j := 21) (v := 65) (f := Instr.if_icmp .ge) sX7_swapped_35 rfl op_162 rfl rfl
theorem dX7_swapped_59 : decode cX7_swapped 59 = .ok (.iload 7, 2) := dcA (j := 24) (f := Instr.iload) sX7_swapped_35 rfl op_21
theorem dX7_swapped_61 : decode cX7_swapped 61 = .ok (.iconst 1, 1) := dc0 (j := 26) sX7_swapped_35 rfl op_4
theorem dX7_swapped_62 : decode cX7_swapped 62 = .ok (.iadd, 1) := dc0 (j := 27) sX7_swapped_35 rfl op_96
theorem dX7_swapped_63 : decode cX7_swapped 63 = .ok (.istore 8, 2) := dcA (j := 28) (f := Instr.istore) sX7_swapped_35 rfl op_54
theorem dX7_swapped_65 : decode cX7_swapped 65 = .ok (.iload 8, 2) := dcA (j := 30) (f := Instr.iload) sX7_swapped_35 rfl op_21
theorem dX7_swapped_67 : decode cX7_swapped 67 = .ok (.aload_n 0, 1) := dc0 (j := 32) sX7_swapped_35 rfl op_42
theorem dX7_swapped_68 : decode cX7_swapped 68 = .ok (.getfield 10, 3) := dcB (j := 33) (f := Instr.getfield) sX7_swapped_35 rfl op_180 rfl
theorem sX7_swapped_71 : sgm cX7_swapped 71 [180, 0, 184, 162, 0, 41, 42, 27, 21, 7, 21, 8, 182, 1, 10, 54, 9, 21, 9, 21, 5, 164, 0, 17, 21, 9, 54, 5, 16, 10, 21, 7, 104, 21, 8, 96] := by decide +kernel
theorem dX7_swapped_71 : decode cX7_swapped 71 = .ok (.getfield 184, 3) := dcB (j := 0) (f := Instr.getfield) sX7_swapped_71 rfl op_180 rfl
theorem dX7_swapped_74 : decode cX7_swapped 74 = .ok (.if_icmp .ge 41, 3) := dcTp (j := 3) (v := 41) (f := Instr.if_icmp .ge) sX7_swapped_71 rfl op_162 rfl rfl
theorem dX7_swapped_77 : decode cX7_swapped 77 = .ok (.aload_n 0, 1) := dc0 (j := 6) sX7_swapped_71 rfl op_42
theorem dX7_swapped_78 : decode cX7_swapped 78 = .ok (.iload_n 1, 1) := dc0 (j := 7) sX7_swapped_71 rfl op_27
theorem dX7_swapped_79 : decode cX7_swapped 79 = .ok (.iload 7, 2) := dcA (j := 8) (f := Instr.iload) sX7_swapped_71 rfl op_21
theorem dX7_swapped_81 : decode cX7_swapped 81 = .ok (.iload 8, 2) := dcA (j := 10) (f := Instr.iload) sX7_swapped_71 rfl op_21
theorem dX7_swapped_83 : decode cX7_swapped 83 = .ok (.invokevirtual 266, 3) := dcB (j := 12) (f := Instr.invokevirtual) sX7_swapped_71 rfl op_182 rfl
theorem dX7_swapped_86 : decode cX7_swapped 86 = .ok (.istore 9, 2) := dcA (j := 15) (f := Instr.istore) sX7_swapped_71 rfl op_54
theorem dX7_swapped_88 : decode cX7_swapped 88 = .ok (.iload 9, 2) := dcA (j := 17) (f := Instr.iload) sX7_swapped_71 rfl op_21
theorem dX7_swapped_90 : decode cX7_swapped 90 = .ok (.iload 5, 2) := dcA (j := 19) (f := Instr.iload) sX7_swapped_71 rfl op_21
theorem dX7_swapped_92 : decode cX7_swapped 92 = .ok (.if_icmp .le 17, 3) := dcTp (j := 21) (v := 17) (f := Instr.if_icmp .le) sX7_swapped_71 rfl op_164 rfl rfl
theorem dX7_swapped_95 : decode cX7_swapped 95 = .ok (.iload 9, 2) := dcA (j := 24) (f := Instr.iload) sX7_swapped_71 rfl op_21
theorem dX7_swapped_97 : decode cX7_swapped 97 = .ok (.istore 5, 2) := dcA (j := 26) (f := Instr.istore) sX7_swapped_71 rfl op_54
theorem dX7_swapped_99 : decode cX7_swapped 99 = .ok (.bipush 10, 2) := dcSp (j := 28) (a := 10) (f := Instr.bipush) sX7_swapped_71 rfl op_16 rfl
theorem dX7_swapped_101 : decode cX7_swapped 101 = .ok (.iload 7, 2) := dcA (j := 30) (f := Instr.iload) sX7_swapped_71 rfl op_21
theorem dX7_swapped_103 : decode cX7_swapped 103 = .ok (.imul, 1) := dc0 (j := 32) sX7_swapped_71 rfl op_104
theorem dX7_swapped_104 : decode cX7_swapped 104 = .ok (.iload 8, 2) := dcA (j := 33) (f := Instr.iload) sX7_swapped_71 rfl op_21
theorem dX7_swapped_106 : decode cX7_swapped 106 = .ok (.iadd, 1) := dc0 (j := 35) sX7_swapped_71 rfl op_96
theorem sX7_swapped_107 : sgm cX7_swapped 107 [54, 6, 132, 8, 1, 167, 255, 209, 132, 7, 1, 167, 255, 185, 28, 154, 0, 11, 21, 5, 21, 4, 100, 167, 0, 5, 21, 6, 172] := by decide +kernel
theorem dX7_swapped_107 : decode cX7_swapped 107 = .ok (.istore 6, 2) := dcA (j := 0) (f := Instr.istore) sX7_swapped_107 rfl op_54
theorem dX7_swapped_109 : decode cX7_swapped 109 = .ok (.iinc 8 1, 3) := dcIp (j := 2) sX7_swapped_107 rfl op_132 rfl
theorem dX7_swapped_112 : decode cX7_swapped 112 = .ok (.goto (-47), 3) := dcTn (j := 5) (v := 47) (f := Instr.goto) sX7_swapped_107 rfl op_167 rfl rfl rfl
theorem dX7_swapped_115 : decode cX7_swapped 115 = .ok (.iinc 7 1, 3) := dcIp (j := 8) sX7_swapped_107 rfl op_132 rfl
theorem dX7_swapped_118 : decode cX7_swapped 118 = .ok (.goto (-71), 3) := dcTn (j := 11) (v := 71) (f := Instr.goto) sX7_swapped_107 rfl op_167 rfl rfl rfl
theorem dX7_swapped_121 : decode cX7_swapped 121 = .ok (.iload_n 2, 1) := dc0 (j := 14) sX7_swapped_107 rfl op_28
theorem dX7_swapped_122 : decode cX7_swapped 122 = .ok (.ifCond .ne 11, 3) := dcTp (j := 15) (v := 11) (f := Instr.ifCond .ne) sX7_swapped_107 rfl op_154 rfl rfl
theorem dX7_swapped_125 : decode cX7_swapped 125 = .ok (.iload 5, 2) := dcA (j := 18) (f := Instr.iload) sX7_swapped_107 rfl op_21
theorem dX7_swapped_127 : decode cX7_swapped 127 = .ok (.iload 4, 2) := dcA (j := 20) (f := Instr.iload) sX7_swapped_107 rfl op_21
theorem dX7_swapped_129 : decode cX7_swapped 129 = .ok (.isub, 1) := dc0 (j := 22) sX7_swapped_107 rfl op_100
theorem dX7_swapped_130 : decode cX7_swapped 130 = .ok (.goto 5, 3) := dcTp (j := 23) (v := 5) (f := Instr.goto) sX7_swapped_107 rfl op_167 rfl rfl
theorem dX7_swapped_133 : decode cX7_swapped 133 = .ok (.iload 6, 2) := dcA (j := 26) (f := Instr.iload) sX7_swapped_107 rfl op_21
theorem dX7_swapped_135 : decode cX7_swapped 135 = .ok (.ireturn, 1) := dc0 (j := 28) sX7_swapped_107 rfl op_172
theorem sX7_doneBySwapped_0 : sgm cX7_doneBySwapped 0 [42, 180, 0, 16, 42, 180, 0, 10, 182, 0, 81, 42, 180, 0, 16, 180, 0, 95, 28, 42, 180, 0, 10, 180, 0, 95, 29, 46, 79, 42, 180, 0, 16, 180, 0, 95] := by decide +kernel
theorem dX7_doneBySwapped_0 : decode cX7_doneBySwapped 0 = .ok (.aload_n 0, 1) := dc0 (j := 0) sX7_doneBySwapped_0 rfl op_42
theorem dX7_doneBySwapped_1 : decode cX7_doneBySwapped 1 = .ok (.getfield 16, 3) := dcB (j := 1) (f := Instr.getfield) sX7_doneBySwapped_0 rfl op_180 rfl
theorem dX7_doneBySwapped_4 : decode cX7_doneBySwapped 4 = .ok (.aload_n 0, 1) := dc0 (j := 4) sX7_doneBySwapped_0 rfl op_42
theorem dX7_doneBySwapped_5 : decode cX7_doneBySwapped 5 = .ok (.getfield 10, 3) := dcB (j := 5) (f := Instr.getfield) sX7_doneBySwapped_0 rfl op_180 rfl
theorem dX7_doneBySwapped_8 : decode cX7_doneBySwapped 8 = .ok (.invokevirtual 81, 3) := dcB (j := 8) (f := Instr.invokevirtual) sX7_doneBySwapped_0 rfl op_182 rfl
theorem dX7_doneBySwapped_11 : decode cX7_doneBySwapped 11 = .ok (.aload_n 0, 1) := dc0 (j := 11) sX7_doneBySwapped_0 rfl op_42
theorem dX7_doneBySwapped_12 : decode cX7_doneBySwapped 12 = .ok (.getfield 16, 3) := dcB (j := 12) (f := Instr.getfield) sX7_doneBySwapped_0 rfl op_180 rfl
theorem dX7_doneBySwapped_15 : decode cX7_doneBySwapped 15 = .ok (.getfield 95, 3) := dcB (j := 15) (f := Instr.getfield) sX7_doneBySwapped_0 rfl op_180 rfl
theorem dX7_doneBySwapped_18 : decode cX7_doneBySwapped 18 = .ok (.iload_n 2, 1) := dc0 (j := 18) sX7_doneBySwapped_0 rfl op_28
theorem dX7_doneBySwapped_19 : decode cX7_doneBySwapped 19 = .ok (.aload_n 0, 1) := dc0 (j := 19) sX7_doneBySwapped_0 rfl op_42
theorem dX7_doneBySwapped_20 : decode cX7_doneBySwapped 20 = .ok (.getfield 10, 3) := dcB (j := 20) (f := Instr.getfield) sX7_doneBySwapped_0 rfl op_180 rfl
theorem dX7_doneBySwapped_23 : decode cX7_doneBySwapped 23 = .ok (.getfield 95, 3) := dcB (j := 23) (f := Instr.getfield) sX7_doneBySwapped_0 rfl op_180 rfl
theorem dX7_doneBySwapped_26 : decode cX7_doneBySwapped 26 = .ok (.iload_n 3, 1) := dc0 (j := 26) sX7_doneBySwapped_0 rfl op_29
theorem dX7_doneBySwapped_27 : decode cX7_doneBySwapped 27 = .ok (.iaload, 1) := dc0 (j := 27) sX7_doneBySwapped_0 rfl op_46
theorem dX7_doneBySwapped_28 : decode cX7_doneBySwapped 28 = .ok (.iastore, 1) := dc0 (j := 28) sX7_doneBySwapped_0 rfl op_79
theorem dX7_doneBySwapped_29 : decode cX7_doneBySwapped 29 = .ok (.aload_n 0, 1) := dc0 (j := 29) sX7_doneBySwapped_0 rfl op_42
theorem dX7_doneBySwapped_30 : decode cX7_doneBySwapped 30 = .ok (.getfield 16, 3) := dcB (j := 30) (f := Instr.getfield) sX7_doneBySwapped_0 rfl op_180 rfl
theorem dX7_doneBySwapped_33 : decode cX7_doneBySwapped 33 = .ok (.getfield 95, 3) := dcB (j := 33) (f := Instr.getfield) sX7_doneBySwapped_0 rfl op_180 rfl
theorem sX7_doneBySwapped_36 : sgm cX7_doneBySwapped 36 [29, 42, 180, 0, 10, 180, 0, 95, 28, 46, 79, 42, 180, 0, 16, 27, 3, 2, 3, 182, 0, 181, 87, 42, 180, 0, 16, 182, 0, 164, 172] := by decide +kernel
theorem dX7_doneBySwapped_36 : decode cX7_doneBySwapped 36 = .ok (.iload_n 3, 1) := dc0 (j := 0) sX7_doneBySwapped_36 rfl op_29
theorem dX7_doneBySwapped_37 : decode cX7_doneBySwapped 37 = .ok (.aload_n 0, 1) := dc0 (j := 1) sX7_doneBySwapped_36 rfl op_42
theorem dX7_doneBySwapped_38 : decode cX7_doneBySwapped 38 = .ok (.getfield 10, 3) := dcB (j := 2) (f := Instr.getfield) sX7_doneBySwapped_36 rfl op_180 rfl
theorem dX7_doneBySwapped_41 : decode cX7_doneBySwapped 41 = .ok (.getfield 95, 3) := dcB (j := 5) (f := Instr.getfield) sX7_doneBySwapped_36 rfl op_180 rfl
theorem dX7_doneBySwapped_44 : decode cX7_doneBySwapped 44 = .ok (.iload_n 2, 1) := dc0 (j := 8) sX7_doneBySwapped_36 rfl op_28
theorem dX7_doneBySwapped_45 : decode cX7_doneBySwapped 45 = .ok (.iaload, 1) := dc0 (j := 9) sX7_doneBySwapped_36 rfl op_46
theorem dX7_doneBySwapped_46 : decode cX7_doneBySwapped 46 = .ok (.iastore, 1) := dc0 (j := 10) sX7_doneBySwapped_36 rfl op_79
theorem dX7_doneBySwapped_47 : decode cX7_doneBySwapped 47 = .ok (.aload_n 0, 1) := dc0 (j := 11) sX7_doneBySwapped_36 rfl op_42
theorem dX7_doneBySwapped_48 : decode cX7_doneBySwapped 48 = .ok (.getfield 16, 3) := dcB (j := 12) (f := Instr.getfield) sX7_doneBySwapped_36 rfl op_180 rfl
theorem dX7_doneBySwapped_51 : decode cX7_doneBySwapped 51 = .ok (.iload_n 1, 1) := dc0 (j := 15) sX7_doneBySwapped_36 rfl op_27
theorem dX7_doneBySwapped_52 : decode cX7_doneBySwapped 52 = .ok (.iconst 0, 1) := dc0 (j := 16) sX7_doneBySwapped_36 rfl op_3
theorem dX7_doneBySwapped_53 : decode cX7_doneBySwapped 53 = .ok (.iconst (-1), 1) := dc0 (j := 17) sX7_doneBySwapped_36 rfl op_2
theorem dX7_doneBySwapped_54 : decode cX7_doneBySwapped 54 = .ok (.iconst 0, 1) := dc0 (j := 18) sX7_doneBySwapped_36 rfl op_3
theorem dX7_doneBySwapped_55 : decode cX7_doneBySwapped 55 = .ok (.invokevirtual 181, 3) := dcB (j := 19) (f := Instr.invokevirtual) sX7_doneBySwapped_36 rfl op_182 rfl
theorem dX7_doneBySwapped_58 : decode cX7_doneBySwapped 58 = .ok (.pop, 1) := dc0 (j := 22) sX7_doneBySwapped_36 rfl op_87
theorem dX7_doneBySwapped_59 : decode cX7_doneBySwapped 59 = .ok (.aload_n 0, 1) := dc0 (j := 23) sX7_doneBySwapped_36 rfl op_42
theorem dX7_doneBySwapped_60 : decode cX7_doneBySwapped 60 = .ok (.getfield 16, 3) := dcB (j := 24) (f := Instr.getfield) sX7_doneBySwapped_36 rfl op_180 rfl
theorem dX7_doneBySwapped_63 : decode cX7_doneBySwapped 63 = .ok (.invokevirtual 164, 3) := dcB (j := 27) (f := Instr.invokevirtual) sX7_doneBySwapped_36 rfl op_182 rfl
theorem dX7_doneBySwapped_66 : decode cX7_doneBySwapped 66 = .ok (.ireturn, 1) := dc0 (j := 30) sX7_doneBySwapped_36 rfl op_172
theorem sX7_when_0 : sgm cX7_when 0 [42, 180, 0, 10, 27, 182, 0, 91, 154, 0, 6, 16, 254, 172, 42, 180, 0, 16, 42, 180, 0, 10, 182, 0, 81, 3, 61, 28, 17, 1, 44, 163, 0, 33, 42] := by decide +kernel
theorem dX7_when_0 : decode cX7_when 0 = .ok (.aload_n 0, 1) := dc0 (j := 0) sX7_when_0 rfl op_42
theorem dX7_when_1 : decode cX7_when 1 = .ok (.getfield 10, 3) := dcB (j := 1) (f := Instr.getfield) sX7_when_0 rfl op_180 rfl
theorem dX7_when_4 : decode cX7_when 4 = .ok (.iload_n 1, 1) := dc0 (j := 4) sX7_when_0 rfl op_27
theorem dX7_when_5 : decode cX7_when 5 = .ok (.invokevirtual 91, 3) := dcB (j := 5) (f := Instr.invokevirtual) sX7_when_0 rfl op_182 rfl
theorem dX7_when_8 : decode cX7_when 8 = .ok (.ifCond .ne 6, 3) := dcTp (j := 8) (v := 6) (f := Instr.ifCond .ne) sX7_when_0 rfl op_154 rfl rfl
theorem dX7_when_11 : decode cX7_when 11 = .ok (.bipush (-2), 2) := dcSn (j := 11) (v := 2) (f := Instr.bipush) sX7_when_0 rfl op_16 rfl rfl rfl
theorem dX7_when_13 : decode cX7_when 13 = .ok (.ireturn, 1) := dc0 (j := 13) sX7_when_0 rfl op_172
theorem dX7_when_14 : decode cX7_when 14 = .ok (.aload_n 0, 1) := dc0 (j := 14) sX7_when_0 rfl op_42
theorem dX7_when_15 : decode cX7_when 15 = .ok (.getfield 16, 3) := dcB (j := 15) (f := Instr.getfield) sX7_when_0 rfl op_180 rfl
theorem dX7_when_18 : decode cX7_when 18 = .ok (.aload_n 0, 1) := dc0 (j := 18) sX7_when_0 rfl op_42
theorem dX7_when_19 : decode cX7_when 19 = .ok (.getfield 10, 3) := dcB (j := 19) (f := Instr.getfield) sX7_when_0 rfl op_180 rfl
theorem dX7_when_22 : decode cX7_when 22 = .ok (.invokevirtual 81, 3) := dcB (j := 22) (f := Instr.invokevirtual) sX7_when_0 rfl op_182 rfl
theorem dX7_when_25 : decode cX7_when 25 = .ok (.iconst 0, 1) := dc0 (j := 25) sX7_when_0 rfl op_3
theorem dX7_when_26 : decode cX7_when 26 = .ok (.istore_n 2, 1) := dc0 (j := 26) sX7_when_0 rfl op_61
theorem dX7_when_27 : decode cX7_when 27 = .ok (.iload_n 2, 1) := dc0 (j := 27) sX7_when_0 rfl op_28
theorem dX7_when_28 : decode cX7_when 28 = .ok (.sipush 300, 3) := dcTp (j := 28) (v := 300) (f := Instr.sipush) sX7_when_0 rfl op_17 rfl rfl
theorem dX7_when_31 : decode cX7_when 31 = .ok (.if_icmp .gt 33, 3) := dcTp (j := 31) (v := 33) (f := Instr.if_icmp .gt) sX7_when_0 rfl op_163 rfl rfl
theorem dX7_when_34 : decode cX7_when 34 = .ok (.aload_n 0, 1) := dc0 (j := 34) sX7_when_0 rfl op_42
theorem sX7_when_35 : sgm cX7_when 35 [180, 0, 16, 27, 182, 0, 123, 153, 0, 5, 28, 172, 42, 180, 0, 16, 3, 2, 3, 182, 1, 14, 87, 132, 2, 1, 167, 255, 222, 2, 172] := by decide +kernel
theorem dX7_when_35 : decode cX7_when 35 = .ok (.getfield 16, 3) := dcB (j := 0) (f := Instr.getfield) sX7_when_35 rfl op_180 rfl
theorem dX7_when_38 : decode cX7_when 38 = .ok (.iload_n 1, 1) := dc0 (j := 3) sX7_when_35 rfl op_27
theorem dX7_when_39 : decode cX7_when 39 = .ok (.invokevirtual 123, 3) := dcB (j := 4) (f := Instr.invokevirtual) sX7_when_35 rfl op_182 rfl
theorem dX7_when_42 : decode cX7_when 42 = .ok (.ifCond .eq 5, 3) := dcTp (j := 7) (v := 5) (f := Instr.ifCond .eq) sX7_when_35 rfl op_153 rfl rfl
theorem dX7_when_45 : decode cX7_when 45 = .ok (.iload_n 2, 1) := dc0 (j := 10) sX7_when_35 rfl op_28
theorem dX7_when_46 : decode cX7_when 46 = .ok (.ireturn, 1) := dc0 (j := 11) sX7_when_35 rfl op_172
theorem dX7_when_47 : decode cX7_when 47 = .ok (.aload_n 0, 1) := dc0 (j := 12) sX7_when_35 rfl op_42
theorem dX7_when_48 : decode cX7_when 48 = .ok (.getfield 16, 3) := dcB (j := 13) (f := Instr.getfield) sX7_when_35 rfl op_180 rfl
theorem dX7_when_51 : decode cX7_when 51 = .ok (.iconst 0, 1) := dc0 (j := 16) sX7_when_35 rfl op_3
theorem dX7_when_52 : decode cX7_when 52 = .ok (.iconst (-1), 1) := dc0 (j := 17) sX7_when_35 rfl op_2
theorem dX7_when_53 : decode cX7_when 53 = .ok (.iconst 0, 1) := dc0 (j := 18) sX7_when_35 rfl op_3
theorem dX7_when_54 : decode cX7_when 54 = .ok (.invokevirtual 270, 3) := dcB (j := 19) (f := Instr.invokevirtual) sX7_when_35 rfl op_182 rfl
theorem dX7_when_57 : decode cX7_when 57 = .ok (.pop, 1) := dc0 (j := 22) sX7_when_35 rfl op_87
theorem dX7_when_58 : decode cX7_when 58 = .ok (.iinc 2 1, 3) := dcIp (j := 23) sX7_when_35 rfl op_132 rfl
theorem dX7_when_61 : decode cX7_when 61 = .ok (.goto (-34), 3) := dcTn (j := 26) (v := 34) (f := Instr.goto) sX7_when_35 rfl op_167 rfl rfl rfl
theorem dX7_when_64 : decode cX7_when 64 = .ok (.iconst (-1), 1) := dc0 (j := 29) sX7_when_35 rfl op_2
theorem dX7_when_65 : decode cX7_when 65 = .ok (.ireturn, 1) := dc0 (j := 30) sX7_when_35 rfl op_172
theorem sX7_warm_0 : sgm cX7_warm 0 [42, 180, 0, 10, 27, 182, 0, 91, 154, 0, 6, 16, 254, 172, 28, 3, 17, 0, 200, 184, 0, 70, 154, 0, 6, 16, 253, 172, 28, 42, 180, 0, 10, 180, 0, 102] := by decide +kernel
theorem dX7_warm_0 : decode cX7_warm 0 = .ok (.aload_n 0, 1) := dc0 (j := 0) sX7_warm_0 rfl op_42
theorem dX7_warm_1 : decode cX7_warm 1 = .ok (.getfield 10, 3) := dcB (j := 1) (f := Instr.getfield) sX7_warm_0 rfl op_180 rfl
theorem dX7_warm_4 : decode cX7_warm 4 = .ok (.iload_n 1, 1) := dc0 (j := 4) sX7_warm_0 rfl op_27
theorem dX7_warm_5 : decode cX7_warm 5 = .ok (.invokevirtual 91, 3) := dcB (j := 5) (f := Instr.invokevirtual) sX7_warm_0 rfl op_182 rfl
theorem dX7_warm_8 : decode cX7_warm 8 = .ok (.ifCond .ne 6, 3) := dcTp (j := 8) (v := 6) (f := Instr.ifCond .ne) sX7_warm_0 rfl op_154 rfl rfl
theorem dX7_warm_11 : decode cX7_warm 11 = .ok (.bipush (-2), 2) := dcSn (j := 11) (v := 2) (f := Instr.bipush) sX7_warm_0 rfl op_16 rfl rfl rfl
theorem dX7_warm_13 : decode cX7_warm 13 = .ok (.ireturn, 1) := dc0 (j := 13) sX7_warm_0 rfl op_172
theorem dX7_warm_14 : decode cX7_warm 14 = .ok (.iload_n 2, 1) := dc0 (j := 14) sX7_warm_0 rfl op_28
theorem dX7_warm_15 : decode cX7_warm 15 = .ok (.iconst 0, 1) := dc0 (j := 15) sX7_warm_0 rfl op_3
theorem dX7_warm_16 : decode cX7_warm 16 = .ok (.sipush 200, 3) := dcTp (j := 16) (v := 200) (f := Instr.sipush) sX7_warm_0 rfl op_17 rfl rfl
theorem dX7_warm_19 : decode cX7_warm 19 = .ok (.invokestatic 70, 3) := dcB (j := 19) (f := Instr.invokestatic) sX7_warm_0 rfl op_184 rfl
theorem dX7_warm_22 : decode cX7_warm 22 = .ok (.ifCond .ne 6, 3) := dcTp (j := 22) (v := 6) (f := Instr.ifCond .ne) sX7_warm_0 rfl op_154 rfl rfl
theorem dX7_warm_25 : decode cX7_warm 25 = .ok (.bipush (-3), 2) := dcSn (j := 25) (v := 3) (f := Instr.bipush) sX7_warm_0 rfl op_16 rfl rfl rfl
theorem dX7_warm_27 : decode cX7_warm 27 = .ok (.ireturn, 1) := dc0 (j := 27) sX7_warm_0 rfl op_172
theorem dX7_warm_28 : decode cX7_warm 28 = .ok (.iload_n 2, 1) := dc0 (j := 28) sX7_warm_0 rfl op_28
theorem dX7_warm_29 : decode cX7_warm 29 = .ok (.aload_n 0, 1) := dc0 (j := 29) sX7_warm_0 rfl op_42
theorem dX7_warm_30 : decode cX7_warm 30 = .ok (.getfield 10, 3) := dcB (j := 30) (f := Instr.getfield) sX7_warm_0 rfl op_180 rfl
theorem dX7_warm_33 : decode cX7_warm 33 = .ok (.getfield 102, 3) := dcB (j := 33) (f := Instr.getfield) sX7_warm_0 rfl op_180 rfl
theorem sX7_warm_36 : sgm cX7_warm 36 [27, 46, 100, 62, 29, 157, 0, 5, 3, 172, 42, 180, 0, 10, 27, 42, 180, 0, 10, 182, 0, 233, 182, 1, 17, 42, 180, 0, 10, 180, 0, 99, 27, 46, 100] := by decide +kernel
theorem dX7_warm_36 : decode cX7_warm 36 = .ok (.iload_n 1, 1) := dc0 (j := 0) sX7_warm_36 rfl op_27
theorem dX7_warm_37 : decode cX7_warm 37 = .ok (.iaload, 1) := dc0 (j := 1) sX7_warm_36 rfl op_46
theorem dX7_warm_38 : decode cX7_warm 38 = .ok (.isub, 1) := dc0 (j := 2) sX7_warm_36 rfl op_100
theorem dX7_warm_39 : decode cX7_warm 39 = .ok (.istore_n 3, 1) := dc0 (j := 3) sX7_warm_36 rfl op_62
theorem dX7_warm_40 : decode cX7_warm 40 = .ok (.iload_n 3, 1) := dc0 (j := 4) sX7_warm_36 rfl op_29
theorem dX7_warm_41 : decode cX7_warm 41 = .ok (.ifCond .gt 5, 3) := dcTp (j := 5) (v := 5) (f := Instr.ifCond .gt) sX7_warm_36 rfl op_157 rfl rfl
theorem dX7_warm_44 : decode cX7_warm 44 = .ok (.iconst 0, 1) := dc0 (j := 8) sX7_warm_36 rfl op_3
theorem dX7_warm_45 : decode cX7_warm 45 = .ok (.ireturn, 1) := dc0 (j := 9) sX7_warm_36 rfl op_172
theorem dX7_warm_46 : decode cX7_warm 46 = .ok (.aload_n 0, 1) := dc0 (j := 10) sX7_warm_36 rfl op_42
theorem dX7_warm_47 : decode cX7_warm 47 = .ok (.getfield 10, 3) := dcB (j := 11) (f := Instr.getfield) sX7_warm_36 rfl op_180 rfl
theorem dX7_warm_50 : decode cX7_warm 50 = .ok (.iload_n 1, 1) := dc0 (j := 14) sX7_warm_36 rfl op_27
theorem dX7_warm_51 : decode cX7_warm 51 = .ok (.aload_n 0, 1) := dc0 (j := 15) sX7_warm_36 rfl op_42
theorem dX7_warm_52 : decode cX7_warm 52 = .ok (.getfield 10, 3) := dcB (j := 16) (f := Instr.getfield) sX7_warm_36 rfl op_180 rfl
theorem dX7_warm_55 : decode cX7_warm 55 = .ok (.invokevirtual 233, 3) := dcB (j := 19) (f := Instr.invokevirtual) sX7_warm_36 rfl op_182 rfl
theorem dX7_warm_58 : decode cX7_warm 58 = .ok (.invokevirtual 273, 3) := dcB (j := 22) (f := Instr.invokevirtual) sX7_warm_36 rfl op_182 rfl
theorem dX7_warm_61 : decode cX7_warm 61 = .ok (.aload_n 0, 1) := dc0 (j := 25) sX7_warm_36 rfl op_42
theorem dX7_warm_62 : decode cX7_warm 62 = .ok (.getfield 10, 3) := dcB (j := 26) (f := Instr.getfield) sX7_warm_36 rfl op_180 rfl
theorem dX7_warm_65 : decode cX7_warm 65 = .ok (.getfield 99, 3) := dcB (j := 29) (f := Instr.getfield) sX7_warm_36 rfl op_180 rfl
theorem dX7_warm_68 : decode cX7_warm 68 = .ok (.iload_n 1, 1) := dc0 (j := 32) sX7_warm_36 rfl op_27
theorem dX7_warm_69 : decode cX7_warm 69 = .ok (.iaload, 1) := dc0 (j := 33) sX7_warm_36 rfl op_46
theorem dX7_warm_70 : decode cX7_warm 70 = .ok (.isub, 1) := dc0 (j := 34) sX7_warm_36 rfl op_100
theorem sX7_warm_71 : sgm cX7_warm 71 [54, 4, 21, 4, 157, 0, 7, 2, 167, 0, 12, 29, 21, 4, 96, 4, 100, 21, 4, 108, 172] := by decide +kernel
theorem dX7_warm_71 : decode cX7_warm 71 = .ok (.istore 4, 2) := dcA (j := 0) (f := Instr.istore) sX7_warm_71 rfl op_54
theorem dX7_warm_73 : decode cX7_warm 73 = .ok (.iload 4, 2) := dcA (j := 2) (f := Instr.iload) sX7_warm_71 rfl op_21
theorem dX7_warm_75 : decode cX7_warm 75 = .ok (.ifCond .gt 7, 3) := dcTp (j := 4) (v := 7) (f := Instr.ifCond .gt) sX7_warm_71 rfl op_157 rfl rfl
theorem dX7_warm_78 : decode cX7_warm 78 = .ok (.iconst (-1), 1) := dc0 (j := 7) sX7_warm_71 rfl op_2
theorem dX7_warm_79 : decode cX7_warm 79 = .ok (.goto 12, 3) := dcTp (j := 8) (v := 12) (f := Instr.goto) sX7_warm_71 rfl op_167 rfl rfl
theorem dX7_warm_82 : decode cX7_warm 82 = .ok (.iload_n 3, 1) := dc0 (j := 11) sX7_warm_71 rfl op_29
theorem dX7_warm_83 : decode cX7_warm 83 = .ok (.iload 4, 2) := dcA (j := 12) (f := Instr.iload) sX7_warm_71 rfl op_21
theorem dX7_warm_85 : decode cX7_warm 85 = .ok (.iadd, 1) := dc0 (j := 14) sX7_warm_71 rfl op_96
theorem dX7_warm_86 : decode cX7_warm 86 = .ok (.iconst 1, 1) := dc0 (j := 15) sX7_warm_71 rfl op_4
theorem dX7_warm_87 : decode cX7_warm 87 = .ok (.isub, 1) := dc0 (j := 16) sX7_warm_71 rfl op_100
theorem dX7_warm_88 : decode cX7_warm 88 = .ok (.iload 4, 2) := dcA (j := 17) (f := Instr.iload) sX7_warm_71 rfl op_21
theorem dX7_warm_90 : decode cX7_warm 90 = .ok (.idiv, 1) := dc0 (j := 19) sX7_warm_71 rfl op_108
theorem dX7_warm_91 : decode cX7_warm 91 = .ok (.ireturn, 1) := dc0 (j := 20) sX7_warm_71 rfl op_172
theorem sX7_cold_0 : sgm cX7_cold 0 [42, 180, 0, 10, 27, 182, 0, 91, 154, 0, 6, 16, 254, 172, 42, 180, 0, 10, 180, 0, 102, 27, 46, 42, 180, 0, 10, 180, 0, 105, 27, 46, 100, 61, 28] := by decide +kernel
theorem dX7_cold_0 : decode cX7_cold 0 = .ok (.aload_n 0, 1) := dc0 (j := 0) sX7_cold_0 rfl op_42
theorem dX7_cold_1 : decode cX7_cold 1 = .ok (.getfield 10, 3) := dcB (j := 1) (f := Instr.getfield) sX7_cold_0 rfl op_180 rfl
theorem dX7_cold_4 : decode cX7_cold 4 = .ok (.iload_n 1, 1) := dc0 (j := 4) sX7_cold_0 rfl op_27
theorem dX7_cold_5 : decode cX7_cold 5 = .ok (.invokevirtual 91, 3) := dcB (j := 5) (f := Instr.invokevirtual) sX7_cold_0 rfl op_182 rfl
theorem dX7_cold_8 : decode cX7_cold 8 = .ok (.ifCond .ne 6, 3) := dcTp (j := 8) (v := 6) (f := Instr.ifCond .ne) sX7_cold_0 rfl op_154 rfl rfl
theorem dX7_cold_11 : decode cX7_cold 11 = .ok (.bipush (-2), 2) := dcSn (j := 11) (v := 2) (f := Instr.bipush) sX7_cold_0 rfl op_16 rfl rfl rfl
theorem dX7_cold_13 : decode cX7_cold 13 = .ok (.ireturn, 1) := dc0 (j := 13) sX7_cold_0 rfl op_172
theorem dX7_cold_14 : decode cX7_cold 14 = .ok (.aload_n 0, 1) := dc0 (j := 14) sX7_cold_0 rfl op_42
theorem dX7_cold_15 : decode cX7_cold 15 = .ok (.getfield 10, 3) := dcB (j := 15) (f := Instr.getfield) sX7_cold_0 rfl op_180 rfl
theorem dX7_cold_18 : decode cX7_cold 18 = .ok (.getfield 102, 3) := dcB (j := 18) (f := Instr.getfield) sX7_cold_0 rfl op_180 rfl
theorem dX7_cold_21 : decode cX7_cold 21 = .ok (.iload_n 1, 1) := dc0 (j := 21) sX7_cold_0 rfl op_27
theorem dX7_cold_22 : decode cX7_cold 22 = .ok (.iaload, 1) := dc0 (j := 22) sX7_cold_0 rfl op_46
theorem dX7_cold_23 : decode cX7_cold 23 = .ok (.aload_n 0, 1) := dc0 (j := 23) sX7_cold_0 rfl op_42
theorem dX7_cold_24 : decode cX7_cold 24 = .ok (.getfield 10, 3) := dcB (j := 24) (f := Instr.getfield) sX7_cold_0 rfl op_180 rfl
theorem dX7_cold_27 : decode cX7_cold 27 = .ok (.getfield 105, 3) := dcB (j := 27) (f := Instr.getfield) sX7_cold_0 rfl op_180 rfl
theorem dX7_cold_30 : decode cX7_cold 30 = .ok (.iload_n 1, 1) := dc0 (j := 30) sX7_cold_0 rfl op_27
theorem dX7_cold_31 : decode cX7_cold 31 = .ok (.iaload, 1) := dc0 (j := 31) sX7_cold_0 rfl op_46
theorem dX7_cold_32 : decode cX7_cold 32 = .ok (.isub, 1) := dc0 (j := 32) sX7_cold_0 rfl op_100
theorem dX7_cold_33 : decode cX7_cold 33 = .ok (.istore_n 2, 1) := dc0 (j := 33) sX7_cold_0 rfl op_61
theorem dX7_cold_34 : decode cX7_cold 34 = .ok (.iload_n 2, 1) := dc0 (j := 34) sX7_cold_0 rfl op_28
theorem sX7_cold_35 : sgm cX7_cold 35 [156, 0, 5, 3, 172, 42, 180, 0, 10, 180, 0, 99, 27, 46, 158, 0, 15, 42, 180, 0, 10, 180, 0, 105, 27, 46, 154, 0, 5, 2, 172, 28, 42, 180, 0, 10] := by decide +kernel
theorem dX7_cold_35 : decode cX7_cold 35 = .ok (.ifCond .ge 5, 3) := dcTp (j := 0) (v := 5) (f := Instr.ifCond .ge) sX7_cold_35 rfl op_156 rfl rfl
theorem dX7_cold_38 : decode cX7_cold 38 = .ok (.iconst 0, 1) := dc0 (j := 3) sX7_cold_35 rfl op_3
theorem dX7_cold_39 : decode cX7_cold 39 = .ok (.ireturn, 1) := dc0 (j := 4) sX7_cold_35 rfl op_172
theorem dX7_cold_40 : decode cX7_cold 40 = .ok (.aload_n 0, 1) := dc0 (j := 5) sX7_cold_35 rfl op_42
theorem dX7_cold_41 : decode cX7_cold 41 = .ok (.getfield 10, 3) := dcB (j := 6) (f := Instr.getfield) sX7_cold_35 rfl op_180 rfl
theorem dX7_cold_44 : decode cX7_cold 44 = .ok (.getfield 99, 3) := dcB (j := 9) (f := Instr.getfield) sX7_cold_35 rfl op_180 rfl
theorem dX7_cold_47 : decode cX7_cold 47 = .ok (.iload_n 1, 1) := dc0 (j := 12) sX7_cold_35 rfl op_27
theorem dX7_cold_48 : decode cX7_cold 48 = .ok (.iaload, 1) := dc0 (j := 13) sX7_cold_35 rfl op_46
theorem dX7_cold_49 : decode cX7_cold 49 = .ok (.ifCond .le 15, 3) := dcTp (j := 14) (v := 15) (f := Instr.ifCond .le) sX7_cold_35 rfl op_158 rfl rfl
theorem dX7_cold_52 : decode cX7_cold 52 = .ok (.aload_n 0, 1) := dc0 (j := 17) sX7_cold_35 rfl op_42
theorem dX7_cold_53 : decode cX7_cold 53 = .ok (.getfield 10, 3) := dcB (j := 18) (f := Instr.getfield) sX7_cold_35 rfl op_180 rfl
theorem dX7_cold_56 : decode cX7_cold 56 = .ok (.getfield 105, 3) := dcB (j := 21) (f := Instr.getfield) sX7_cold_35 rfl op_180 rfl
theorem dX7_cold_59 : decode cX7_cold 59 = .ok (.iload_n 1, 1) := dc0 (j := 24) sX7_cold_35 rfl op_27
theorem dX7_cold_60 : decode cX7_cold 60 = .ok (.iaload, 1) := dc0 (j := 25) sX7_cold_35 rfl op_46
theorem dX7_cold_61 : decode cX7_cold 61 = .ok (.ifCond .ne 5, 3) := dcTp (j := 26) (v := 5) (f := Instr.ifCond .ne) sX7_cold_35 rfl op_154 rfl rfl
theorem dX7_cold_64 : decode cX7_cold 64 = .ok (.iconst (-1), 1) := dc0 (j := 29) sX7_cold_35 rfl op_2
theorem dX7_cold_65 : decode cX7_cold 65 = .ok (.ireturn, 1) := dc0 (j := 30) sX7_cold_35 rfl op_172
theorem dX7_cold_66 : decode cX7_cold 66 = .ok (.iload_n 2, 1) := dc0 (j := 31) sX7_cold_35 rfl op_28
theorem dX7_cold_67 : decode cX7_cold 67 = .ok (.aload_n 0, 1) := dc0 (j := 32) sX7_cold_35 rfl op_42
theorem dX7_cold_68 : decode cX7_cold 68 = .ok (.getfield 10, 3) := dcB (j := 33) (f := Instr.getfield) sX7_cold_35 rfl op_180 rfl
theorem sX7_cold_71 : sgm cX7_cold 71 [180, 0, 99, 27, 46, 108, 4, 96, 172] := by decide +kernel
theorem dX7_cold_71 : decode cX7_cold 71 = .ok (.getfield 99, 3) := dcB (j := 0) (f := Instr.getfield) sX7_cold_71 rfl op_180 rfl
theorem dX7_cold_74 : decode cX7_cold 74 = .ok (.iload_n 1, 1) := dc0 (j := 3) sX7_cold_71 rfl op_27
theorem dX7_cold_75 : decode cX7_cold 75 = .ok (.iaload, 1) := dc0 (j := 4) sX7_cold_71 rfl op_46
theorem dX7_cold_76 : decode cX7_cold 76 = .ok (.idiv, 1) := dc0 (j := 5) sX7_cold_71 rfl op_108
theorem dX7_cold_77 : decode cX7_cold 77 = .ok (.iconst 1, 1) := dc0 (j := 6) sX7_cold_71 rfl op_4
theorem dX7_cold_78 : decode cX7_cold 78 = .ok (.iadd, 1) := dc0 (j := 7) sX7_cold_71 rfl op_96
theorem dX7_cold_79 : decode cX7_cold 79 = .ok (.ireturn, 1) := dc0 (j := 8) sX7_cold_71 rfl op_172
theorem sX7_numbers_0 : sgm cX7_numbers 0 [27, 184, 0, 144, 153, 0, 12, 28, 3, 6, 184, 0, 70, 154, 0, 6, 16, 254, 172, 29, 3, 16, 40, 184, 0, 70, 154, 0, 6, 16, 253, 172, 42, 180, 0, 29] := by decide +kernel
theorem dX7_numbers_0 : decode cX7_numbers 0 = .ok (.iload_n 1, 1) := dc0 (j := 0) sX7_numbers_0 rfl op_27
theorem dX7_numbers_1 : decode cX7_numbers 1 = .ok (.invokestatic 144, 3) := dcB (j := 1) (f := Instr.invokestatic) sX7_numbers_0 rfl op_184 rfl
theorem dX7_numbers_4 : decode cX7_numbers 4 = .ok (.ifCond .eq 12, 3) := dcTp (j := 4) (v := 12) (f := Instr.ifCond .eq) sX7_numbers_0 rfl op_153 rfl rfl
theorem dX7_numbers_7 : decode cX7_numbers 7 = .ok (.iload_n 2, 1) := dc0 (j := 7) sX7_numbers_0 rfl op_28
theorem dX7_numbers_8 : decode cX7_numbers 8 = .ok (.iconst 0, 1) := dc0 (j := 8) sX7_numbers_0 rfl op_3
theorem dX7_numbers_9 : decode cX7_numbers 9 = .ok (.iconst 3, 1) := dc0 (j := 9) sX7_numbers_0 rfl op_6
theorem dX7_numbers_10 : decode cX7_numbers 10 = .ok (.invokestatic 70, 3) := dcB (j := 10) (f := Instr.invokestatic) sX7_numbers_0 rfl op_184 rfl
theorem dX7_numbers_13 : decode cX7_numbers 13 = .ok (.ifCond .ne 6, 3) := dcTp (j := 13) (v := 6) (f := Instr.ifCond .ne) sX7_numbers_0 rfl op_154 rfl rfl
theorem dX7_numbers_16 : decode cX7_numbers 16 = .ok (.bipush (-2), 2) := dcSn (j := 16) (v := 2) (f := Instr.bipush) sX7_numbers_0 rfl op_16 rfl rfl rfl
theorem dX7_numbers_18 : decode cX7_numbers 18 = .ok (.ireturn, 1) := dc0 (j := 18) sX7_numbers_0 rfl op_172
theorem dX7_numbers_19 : decode cX7_numbers 19 = .ok (.iload_n 3, 1) := dc0 (j := 19) sX7_numbers_0 rfl op_29
theorem dX7_numbers_20 : decode cX7_numbers 20 = .ok (.iconst 0, 1) := dc0 (j := 20) sX7_numbers_0 rfl op_3
theorem dX7_numbers_21 : decode cX7_numbers 21 = .ok (.bipush 40, 2) := dcSp (j := 21) (a := 40) (f := Instr.bipush) sX7_numbers_0 rfl op_16 rfl
theorem dX7_numbers_23 : decode cX7_numbers 23 = .ok (.invokestatic 70, 3) := dcB (j := 23) (f := Instr.invokestatic) sX7_numbers_0 rfl op_184 rfl
theorem dX7_numbers_26 : decode cX7_numbers 26 = .ok (.ifCond .ne 6, 3) := dcTp (j := 26) (v := 6) (f := Instr.ifCond .ne) sX7_numbers_0 rfl op_154 rfl rfl
theorem dX7_numbers_29 : decode cX7_numbers 29 = .ok (.bipush (-3), 2) := dcSn (j := 29) (v := 3) (f := Instr.bipush) sX7_numbers_0 rfl op_16 rfl rfl rfl
theorem dX7_numbers_31 : decode cX7_numbers 31 = .ok (.ireturn, 1) := dc0 (j := 31) sX7_numbers_0 rfl op_172
theorem dX7_numbers_32 : decode cX7_numbers 32 = .ok (.aload_n 0, 1) := dc0 (j := 32) sX7_numbers_0 rfl op_42
theorem dX7_numbers_33 : decode cX7_numbers 33 = .ok (.getfield 29, 3) := dcB (j := 33) (f := Instr.getfield) sX7_numbers_0 rfl op_180 rfl
theorem sX7_numbers_36 : sgm cX7_numbers 36 [27, 50, 28, 29, 182, 1, 20, 3, 172] := by decide +kernel
theorem dX7_numbers_36 : decode cX7_numbers 36 = .ok (.iload_n 1, 1) := dc0 (j := 0) sX7_numbers_36 rfl op_27
theorem dX7_numbers_37 : decode cX7_numbers 37 = .ok (.aaload, 1) := dc0 (j := 1) sX7_numbers_36 rfl op_50
theorem dX7_numbers_38 : decode cX7_numbers 38 = .ok (.iload_n 2, 1) := dc0 (j := 2) sX7_numbers_36 rfl op_28
theorem dX7_numbers_39 : decode cX7_numbers 39 = .ok (.iload_n 3, 1) := dc0 (j := 3) sX7_numbers_36 rfl op_29
theorem dX7_numbers_40 : decode cX7_numbers 40 = .ok (.invokevirtual 276, 3) := dcB (j := 4) (f := Instr.invokevirtual) sX7_numbers_36 rfl op_182 rfl
theorem dX7_numbers_43 : decode cX7_numbers 43 = .ok (.iconst 0, 1) := dc0 (j := 7) sX7_numbers_36 rfl op_3
theorem dX7_numbers_44 : decode cX7_numbers 44 = .ok (.ireturn, 1) := dc0 (j := 8) sX7_numbers_36 rfl op_172
theorem sX7_write_0 : sgm cX7_write 0 [42, 27, 182, 0, 171, 54, 5, 21, 5, 153, 0, 7, 21, 5, 133, 173, 28, 3, 42, 180, 0, 29, 27, 50, 180, 1, 23, 4, 100, 184, 0, 70, 154, 0, 7] := by decide +kernel
theorem dX7_write_0 : decode cX7_write 0 = .ok (.aload_n 0, 1) := dc0 (j := 0) sX7_write_0 rfl op_42
theorem dX7_write_1 : decode cX7_write 1 = .ok (.iload_n 1, 1) := dc0 (j := 1) sX7_write_0 rfl op_27
theorem dX7_write_2 : decode cX7_write 2 = .ok (.invokevirtual 171, 3) := dcB (j := 2) (f := Instr.invokevirtual) sX7_write_0 rfl op_182 rfl
theorem dX7_write_5 : decode cX7_write 5 = .ok (.istore 5, 2) := dcA (j := 5) (f := Instr.istore) sX7_write_0 rfl op_54
theorem dX7_write_7 : decode cX7_write 7 = .ok (.iload 5, 2) := dcA (j := 7) (f := Instr.iload) sX7_write_0 rfl op_21
theorem dX7_write_9 : decode cX7_write 9 = .ok (.ifCond .eq 7, 3) := dcTp (j := 9) (v := 7) (f := Instr.ifCond .eq) sX7_write_0 rfl op_153 rfl rfl
theorem dX7_write_12 : decode cX7_write 12 = .ok (.iload 5, 2) := dcA (j := 12) (f := Instr.iload) sX7_write_0 rfl op_21
theorem dX7_write_14 : decode cX7_write 14 = .ok (.i2l, 1) := dc0 (j := 14) sX7_write_0 rfl op_133
theorem dX7_write_15 : decode cX7_write 15 = .ok (.lreturn, 1) := dc0 (j := 15) sX7_write_0 rfl op_173
theorem dX7_write_16 : decode cX7_write 16 = .ok (.iload_n 2, 1) := dc0 (j := 16) sX7_write_0 rfl op_28
theorem dX7_write_17 : decode cX7_write 17 = .ok (.iconst 0, 1) := dc0 (j := 17) sX7_write_0 rfl op_3
theorem dX7_write_18 : decode cX7_write 18 = .ok (.aload_n 0, 1) := dc0 (j := 18) sX7_write_0 rfl op_42
theorem dX7_write_19 : decode cX7_write 19 = .ok (.getfield 29, 3) := dcB (j := 19) (f := Instr.getfield) sX7_write_0 rfl op_180 rfl
theorem dX7_write_22 : decode cX7_write 22 = .ok (.iload_n 1, 1) := dc0 (j := 22) sX7_write_0 rfl op_27
theorem dX7_write_23 : decode cX7_write 23 = .ok (.aaload, 1) := dc0 (j := 23) sX7_write_0 rfl op_50
theorem dX7_write_24 : decode cX7_write 24 = .ok (.getfield 279, 3) := dcB (j := 24) (f := Instr.getfield) sX7_write_0 rfl op_180 rfl
theorem dX7_write_27 : decode cX7_write 27 = .ok (.iconst 1, 1) := dc0 (j := 27) sX7_write_0 rfl op_4
theorem dX7_write_28 : decode cX7_write 28 = .ok (.isub, 1) := dc0 (j := 28) sX7_write_0 rfl op_100
theorem dX7_write_29 : decode cX7_write 29 = .ok (.invokestatic 70, 3) := dcB (j := 29) (f := Instr.invokestatic) sX7_write_0 rfl op_184 rfl
theorem dX7_write_32 : decode cX7_write 32 = .ok (.ifCond .ne 7, 3) := dcTp (j := 32) (v := 7) (f := Instr.ifCond .ne) sX7_write_0 rfl op_154 rfl rfl
theorem sX7_write_35 : sgm cX7_write 35 [20, 1, 24, 173, 42, 180, 0, 29, 27, 50, 28, 33, 182, 1, 26, 42, 180, 0, 29, 27, 50, 180, 1, 30, 28, 47, 173] := by decide +kernel
theorem dX7_write_35 : decode cX7_write 35 = .ok (.ldc2_w 280, 3) := dcB (j := 0) (f := Instr.ldc2_w) sX7_write_35 rfl op_20 rfl
theorem dX7_write_38 : decode cX7_write 38 = .ok (.lreturn, 1) := dc0 (j := 3) sX7_write_35 rfl op_173
theorem dX7_write_39 : decode cX7_write 39 = .ok (.aload_n 0, 1) := dc0 (j := 4) sX7_write_35 rfl op_42
theorem dX7_write_40 : decode cX7_write 40 = .ok (.getfield 29, 3) := dcB (j := 5) (f := Instr.getfield) sX7_write_35 rfl op_180 rfl
theorem dX7_write_43 : decode cX7_write 43 = .ok (.iload_n 1, 1) := dc0 (j := 8) sX7_write_35 rfl op_27
theorem dX7_write_44 : decode cX7_write 44 = .ok (.aaload, 1) := dc0 (j := 9) sX7_write_35 rfl op_50
theorem dX7_write_45 : decode cX7_write 45 = .ok (.iload_n 2, 1) := dc0 (j := 10) sX7_write_35 rfl op_28
theorem dX7_write_46 : decode cX7_write 46 = .ok (.lload_n 3, 1) := dc0 (j := 11) sX7_write_35 rfl op_33
theorem dX7_write_47 : decode cX7_write 47 = .ok (.invokevirtual 282, 3) := dcB (j := 12) (f := Instr.invokevirtual) sX7_write_35 rfl op_182 rfl
theorem dX7_write_50 : decode cX7_write 50 = .ok (.aload_n 0, 1) := dc0 (j := 15) sX7_write_35 rfl op_42
theorem dX7_write_51 : decode cX7_write 51 = .ok (.getfield 29, 3) := dcB (j := 16) (f := Instr.getfield) sX7_write_35 rfl op_180 rfl
theorem dX7_write_54 : decode cX7_write 54 = .ok (.iload_n 1, 1) := dc0 (j := 19) sX7_write_35 rfl op_27
theorem dX7_write_55 : decode cX7_write 55 = .ok (.aaload, 1) := dc0 (j := 20) sX7_write_35 rfl op_50
theorem dX7_write_56 : decode cX7_write 56 = .ok (.getfield 286, 3) := dcB (j := 21) (f := Instr.getfield) sX7_write_35 rfl op_180 rfl
theorem dX7_write_59 : decode cX7_write 59 = .ok (.iload_n 2, 1) := dc0 (j := 24) sX7_write_35 rfl op_28
theorem dX7_write_60 : decode cX7_write 60 = .ok (.laload, 1) := dc0 (j := 25) sX7_write_35 rfl op_47
theorem dX7_write_61 : decode cX7_write 61 = .ok (.lreturn, 1) := dc0 (j := 26) sX7_write_35 rfl op_173
theorem sX7_copy_0 : sgm cX7_copy 0 [42, 27, 182, 0, 171, 61, 28, 153, 0, 5, 28, 172, 42, 180, 0, 29, 27, 50, 180, 1, 23, 42, 180, 0, 10, 180, 0, 184, 162, 0, 6, 16, 249, 172, 3, 62] := by decide +kernel
theorem dX7_copy_0 : decode cX7_copy 0 = .ok (.aload_n 0, 1) := dc0 (j := 0) sX7_copy_0 rfl op_42
theorem dX7_copy_1 : decode cX7_copy 1 = .ok (.iload_n 1, 1) := dc0 (j := 1) sX7_copy_0 rfl op_27
theorem dX7_copy_2 : decode cX7_copy 2 = .ok (.invokevirtual 171, 3) := dcB (j := 2) (f := Instr.invokevirtual) sX7_copy_0 rfl op_182 rfl
theorem dX7_copy_5 : decode cX7_copy 5 = .ok (.istore_n 2, 1) := dc0 (j := 5) sX7_copy_0 rfl op_61
theorem dX7_copy_6 : decode cX7_copy 6 = .ok (.iload_n 2, 1) := dc0 (j := 6) sX7_copy_0 rfl op_28
theorem dX7_copy_7 : decode cX7_copy 7 = .ok (.ifCond .eq 5, 3) := dcTp (j := 7) (v := 5) (f := Instr.ifCond .eq) sX7_copy_0 rfl op_153 rfl rfl
theorem dX7_copy_10 : decode cX7_copy 10 = .ok (.iload_n 2, 1) := dc0 (j := 10) sX7_copy_0 rfl op_28
theorem dX7_copy_11 : decode cX7_copy 11 = .ok (.ireturn, 1) := dc0 (j := 11) sX7_copy_0 rfl op_172
theorem dX7_copy_12 : decode cX7_copy 12 = .ok (.aload_n 0, 1) := dc0 (j := 12) sX7_copy_0 rfl op_42
theorem dX7_copy_13 : decode cX7_copy 13 = .ok (.getfield 29, 3) := dcB (j := 13) (f := Instr.getfield) sX7_copy_0 rfl op_180 rfl
theorem dX7_copy_16 : decode cX7_copy 16 = .ok (.iload_n 1, 1) := dc0 (j := 16) sX7_copy_0 rfl op_27
theorem dX7_copy_17 : decode cX7_copy 17 = .ok (.aaload, 1) := dc0 (j := 17) sX7_copy_0 rfl op_50
theorem dX7_copy_18 : decode cX7_copy 18 = .ok (.getfield 279, 3) := dcB (j := 18) (f := Instr.getfield) sX7_copy_0 rfl op_180 rfl
theorem dX7_copy_21 : decode cX7_copy 21 = .ok (.aload_n 0, 1) := dc0 (j := 21) sX7_copy_0 rfl op_42
theorem dX7_copy_22 : decode cX7_copy 22 = .ok (.getfield 10, 3) := dcB (j := 22) (f := Instr.getfield) sX7_copy_0 rfl op_180 rfl
theorem dX7_copy_25 : decode cX7_copy 25 = .ok (.getfield 184, 3) := dcB (j := 25) (f := Instr.getfield) sX7_copy_0 rfl op_180 rfl
theorem dX7_copy_28 : decode cX7_copy 28 = .ok (.if_icmp .ge 6, 3) := dcTp (j := 28) (v := 6) (f := Instr.if_icmp .ge) sX7_copy_0 rfl op_162 rfl rfl
theorem dX7_copy_31 : decode cX7_copy 31 = .ok (.bipush (-7), 2) := dcSn (j := 31) (v := 7) (f := Instr.bipush) sX7_copy_0 rfl op_16 rfl rfl rfl
theorem dX7_copy_33 : decode cX7_copy 33 = .ok (.ireturn, 1) := dc0 (j := 33) sX7_copy_0 rfl op_172
theorem dX7_copy_34 : decode cX7_copy 34 = .ok (.iconst 0, 1) := dc0 (j := 34) sX7_copy_0 rfl op_3
theorem dX7_copy_35 : decode cX7_copy 35 = .ok (.istore_n 3, 1) := dc0 (j := 35) sX7_copy_0 rfl op_62
theorem sX7_copy_36 : sgm cX7_copy 36 [29, 42, 180, 0, 10, 180, 0, 184, 162, 0, 29, 42, 180, 0, 29, 27, 50, 29, 42, 180, 0, 10, 180, 0, 102, 29, 46, 133, 182, 1, 26, 132, 3, 1] := by decide +kernel
theorem dX7_copy_36 : decode cX7_copy 36 = .ok (.iload_n 3, 1) := dc0 (j := 0) sX7_copy_36 rfl op_29
theorem dX7_copy_37 : decode cX7_copy 37 = .ok (.aload_n 0, 1) := dc0 (j := 1) sX7_copy_36 rfl op_42
theorem dX7_copy_38 : decode cX7_copy 38 = .ok (.getfield 10, 3) := dcB (j := 2) (f := Instr.getfield) sX7_copy_36 rfl op_180 rfl
theorem dX7_copy_41 : decode cX7_copy 41 = .ok (.getfield 184, 3) := dcB (j := 5) (f := Instr.getfield) sX7_copy_36 rfl op_180 rfl
theorem dX7_copy_44 : decode cX7_copy 44 = .ok (.if_icmp .ge 29, 3) := dcTp (j := 8) (v := 29) (f := Instr.if_icmp .ge) sX7_copy_36 rfl op_162 rfl rfl
theorem dX7_copy_47 : decode cX7_copy 47 = .ok (.aload_n 0, 1) := dc0 (j := 11) sX7_copy_36 rfl op_42
theorem dX7_copy_48 : decode cX7_copy 48 = .ok (.getfield 29, 3) := dcB (j := 12) (f := Instr.getfield) sX7_copy_36 rfl op_180 rfl
theorem dX7_copy_51 : decode cX7_copy 51 = .ok (.iload_n 1, 1) := dc0 (j := 15) sX7_copy_36 rfl op_27
theorem dX7_copy_52 : decode cX7_copy 52 = .ok (.aaload, 1) := dc0 (j := 16) sX7_copy_36 rfl op_50
theorem dX7_copy_53 : decode cX7_copy 53 = .ok (.iload_n 3, 1) := dc0 (j := 17) sX7_copy_36 rfl op_29
theorem dX7_copy_54 : decode cX7_copy 54 = .ok (.aload_n 0, 1) := dc0 (j := 18) sX7_copy_36 rfl op_42
theorem dX7_copy_55 : decode cX7_copy 55 = .ok (.getfield 10, 3) := dcB (j := 19) (f := Instr.getfield) sX7_copy_36 rfl op_180 rfl
theorem dX7_copy_58 : decode cX7_copy 58 = .ok (.getfield 102, 3) := dcB (j := 22) (f := Instr.getfield) sX7_copy_36 rfl op_180 rfl
theorem dX7_copy_61 : decode cX7_copy 61 = .ok (.iload_n 3, 1) := dc0 (j := 25) sX7_copy_36 rfl op_29
theorem dX7_copy_62 : decode cX7_copy 62 = .ok (.iaload, 1) := dc0 (j := 26) sX7_copy_36 rfl op_46
theorem dX7_copy_63 : decode cX7_copy 63 = .ok (.i2l, 1) := dc0 (j := 27) sX7_copy_36 rfl op_133
theorem dX7_copy_64 : decode cX7_copy 64 = .ok (.invokevirtual 282, 3) := dcB (j := 28) (f := Instr.invokevirtual) sX7_copy_36 rfl op_182 rfl
theorem dX7_copy_67 : decode cX7_copy 67 = .ok (.iinc 3 1, 3) := dcIp (j := 31) sX7_copy_36 rfl op_132 rfl
theorem sX7_copy_70 : sgm cX7_copy 70 [167, 255, 222, 42, 180, 0, 10, 180, 0, 184, 172] := by decide +kernel
theorem dX7_copy_70 : decode cX7_copy 70 = .ok (.goto (-34), 3) := dcTn (j := 0) (v := 34) (f := Instr.goto) sX7_copy_70 rfl op_167 rfl rfl rfl
theorem dX7_copy_73 : decode cX7_copy 73 = .ok (.aload_n 0, 1) := dc0 (j := 3) sX7_copy_70 rfl op_42
theorem dX7_copy_74 : decode cX7_copy 74 = .ok (.getfield 10, 3) := dcB (j := 4) (f := Instr.getfield) sX7_copy_70 rfl op_180 rfl
theorem dX7_copy_77 : decode cX7_copy 77 = .ok (.getfield 184, 3) := dcB (j := 7) (f := Instr.getfield) sX7_copy_70 rfl op_180 rfl
theorem dX7_copy_80 : decode cX7_copy 80 = .ok (.ireturn, 1) := dc0 (j := 10) sX7_copy_70 rfl op_172
theorem sX7_image_0 : sgm cX7_image 0 [27, 184, 1, 34, 154, 0, 6, 16, 254, 172, 42, 180, 0, 19, 27, 50, 42, 180, 0, 10, 182, 0, 81, 42, 180, 0, 23, 27, 4, 84, 3, 172] := by decide +kernel
theorem dX7_image_0 : decode cX7_image 0 = .ok (.iload_n 1, 1) := dc0 (j := 0) sX7_image_0 rfl op_27
theorem dX7_image_1 : decode cX7_image 1 = .ok (.invokestatic 290, 3) := dcB (j := 1) (f := Instr.invokestatic) sX7_image_0 rfl op_184 rfl
theorem dX7_image_4 : decode cX7_image 4 = .ok (.ifCond .ne 6, 3) := dcTp (j := 4) (v := 6) (f := Instr.ifCond .ne) sX7_image_0 rfl op_154 rfl rfl
theorem dX7_image_7 : decode cX7_image 7 = .ok (.bipush (-2), 2) := dcSn (j := 7) (v := 2) (f := Instr.bipush) sX7_image_0 rfl op_16 rfl rfl rfl
theorem dX7_image_9 : decode cX7_image 9 = .ok (.ireturn, 1) := dc0 (j := 9) sX7_image_0 rfl op_172
theorem dX7_image_10 : decode cX7_image 10 = .ok (.aload_n 0, 1) := dc0 (j := 10) sX7_image_0 rfl op_42
theorem dX7_image_11 : decode cX7_image 11 = .ok (.getfield 19, 3) := dcB (j := 11) (f := Instr.getfield) sX7_image_0 rfl op_180 rfl
theorem dX7_image_14 : decode cX7_image 14 = .ok (.iload_n 1, 1) := dc0 (j := 14) sX7_image_0 rfl op_27
theorem dX7_image_15 : decode cX7_image 15 = .ok (.aaload, 1) := dc0 (j := 15) sX7_image_0 rfl op_50
theorem dX7_image_16 : decode cX7_image 16 = .ok (.aload_n 0, 1) := dc0 (j := 16) sX7_image_0 rfl op_42
theorem dX7_image_17 : decode cX7_image 17 = .ok (.getfield 10, 3) := dcB (j := 17) (f := Instr.getfield) sX7_image_0 rfl op_180 rfl
theorem dX7_image_20 : decode cX7_image 20 = .ok (.invokevirtual 81, 3) := dcB (j := 20) (f := Instr.invokevirtual) sX7_image_0 rfl op_182 rfl
theorem dX7_image_23 : decode cX7_image 23 = .ok (.aload_n 0, 1) := dc0 (j := 23) sX7_image_0 rfl op_42
theorem dX7_image_24 : decode cX7_image 24 = .ok (.getfield 23, 3) := dcB (j := 24) (f := Instr.getfield) sX7_image_0 rfl op_180 rfl
theorem dX7_image_27 : decode cX7_image 27 = .ok (.iload_n 1, 1) := dc0 (j := 27) sX7_image_0 rfl op_27
theorem dX7_image_28 : decode cX7_image 28 = .ok (.iconst 1, 1) := dc0 (j := 28) sX7_image_0 rfl op_4
theorem dX7_image_29 : decode cX7_image 29 = .ok (.bastore, 1) := dc0 (j := 29) sX7_image_0 rfl op_84
theorem dX7_image_30 : decode cX7_image 30 = .ok (.iconst 0, 1) := dc0 (j := 30) sX7_image_0 rfl op_3
theorem dX7_image_31 : decode cX7_image 31 = .ok (.ireturn, 1) := dc0 (j := 31) sX7_image_0 rfl op_172
theorem sX7_restore_0 : sgm cX7_restore 0 [27, 184, 1, 34, 154, 0, 6, 16, 254, 172, 42, 180, 0, 23, 27, 51, 154, 0, 6, 16, 251, 172, 42, 180, 0, 10, 42, 180, 0, 19, 27, 50, 182, 0, 81, 3] := by decide +kernel
theorem dX7_restore_0 : decode cX7_restore 0 = .ok (.iload_n 1, 1) := dc0 (j := 0) sX7_restore_0 rfl op_27
theorem dX7_restore_1 : decode cX7_restore 1 = .ok (.invokestatic 290, 3) := dcB (j := 1) (f := Instr.invokestatic) sX7_restore_0 rfl op_184 rfl
theorem dX7_restore_4 : decode cX7_restore 4 = .ok (.ifCond .ne 6, 3) := dcTp (j := 4) (v := 6) (f := Instr.ifCond .ne) sX7_restore_0 rfl op_154 rfl rfl
theorem dX7_restore_7 : decode cX7_restore 7 = .ok (.bipush (-2), 2) := dcSn (j := 7) (v := 2) (f := Instr.bipush) sX7_restore_0 rfl op_16 rfl rfl rfl
theorem dX7_restore_9 : decode cX7_restore 9 = .ok (.ireturn, 1) := dc0 (j := 9) sX7_restore_0 rfl op_172
theorem dX7_restore_10 : decode cX7_restore 10 = .ok (.aload_n 0, 1) := dc0 (j := 10) sX7_restore_0 rfl op_42
theorem dX7_restore_11 : decode cX7_restore 11 = .ok (.getfield 23, 3) := dcB (j := 11) (f := Instr.getfield) sX7_restore_0 rfl op_180 rfl
theorem dX7_restore_14 : decode cX7_restore 14 = .ok (.iload_n 1, 1) := dc0 (j := 14) sX7_restore_0 rfl op_27
theorem dX7_restore_15 : decode cX7_restore 15 = .ok (.baload, 1) := dc0 (j := 15) sX7_restore_0 rfl op_51
theorem dX7_restore_16 : decode cX7_restore 16 = .ok (.ifCond .ne 6, 3) := dcTp (j := 16) (v := 6) (f := Instr.ifCond .ne) sX7_restore_0 rfl op_154 rfl rfl
theorem dX7_restore_19 : decode cX7_restore 19 = .ok (.bipush (-5), 2) := dcSn (j := 19) (v := 5) (f := Instr.bipush) sX7_restore_0 rfl op_16 rfl rfl rfl
theorem dX7_restore_21 : decode cX7_restore 21 = .ok (.ireturn, 1) := dc0 (j := 21) sX7_restore_0 rfl op_172
theorem dX7_restore_22 : decode cX7_restore 22 = .ok (.aload_n 0, 1) := dc0 (j := 22) sX7_restore_0 rfl op_42
theorem dX7_restore_23 : decode cX7_restore 23 = .ok (.getfield 10, 3) := dcB (j := 23) (f := Instr.getfield) sX7_restore_0 rfl op_180 rfl
theorem dX7_restore_26 : decode cX7_restore 26 = .ok (.aload_n 0, 1) := dc0 (j := 26) sX7_restore_0 rfl op_42
theorem dX7_restore_27 : decode cX7_restore 27 = .ok (.getfield 19, 3) := dcB (j := 27) (f := Instr.getfield) sX7_restore_0 rfl op_180 rfl
theorem dX7_restore_30 : decode cX7_restore 30 = .ok (.iload_n 1, 1) := dc0 (j := 30) sX7_restore_0 rfl op_27
theorem dX7_restore_31 : decode cX7_restore 31 = .ok (.aaload, 1) := dc0 (j := 31) sX7_restore_0 rfl op_50
theorem dX7_restore_32 : decode cX7_restore 32 = .ok (.invokevirtual 81, 3) := dcB (j := 32) (f := Instr.invokevirtual) sX7_restore_0 rfl op_182 rfl
theorem dX7_restore_35 : decode cX7_restore 35 = .ok (.iconst 0, 1) := dc0 (j := 35) sX7_restore_0 rfl op_3
theorem sX7_restore_36 : sgm cX7_restore 36 [172] := by decide +kernel
theorem dX7_restore_36 : decode cX7_restore 36 = .ok (.ireturn, 1) := dc0 (j := 0) sX7_restore_36 rfl op_172
theorem sX7_count_0 : sgm cX7_count 0 [27] := by decide +kernel
theorem dX7_count_0 : decode cX7_count 0 = .ok (.iload_n 1, 1) := dc0 (j := 0) sX7_count_0 rfl op_27
theorem dX7_count_1 : decode cX7_count 1 = .ok (.tableswitch 123 0 8 #[51, 59, 67, 75, 83, 91, 99, 107, 115], 51) := by decide +kernel
theorem sX7_count_52 : sgm cX7_count 52 [42, 180, 0, 10, 180, 0, 184, 172, 42, 180, 0, 10, 180, 0, 137, 172, 42, 180, 0, 10, 182, 0, 164, 172, 42, 180, 0, 10, 180, 0, 168, 172, 42, 180, 0, 10] := by decide +kernel
theorem dX7_count_52 : decode cX7_count 52 = .ok (.aload_n 0, 1) := dc0 (j := 0) sX7_count_52 rfl op_42
theorem dX7_count_53 : decode cX7_count 53 = .ok (.getfield 10, 3) := dcB (j := 1) (f := Instr.getfield) sX7_count_52 rfl op_180 rfl
theorem dX7_count_56 : decode cX7_count 56 = .ok (.getfield 184, 3) := dcB (j := 4) (f := Instr.getfield) sX7_count_52 rfl op_180 rfl
theorem dX7_count_59 : decode cX7_count 59 = .ok (.ireturn, 1) := dc0 (j := 7) sX7_count_52 rfl op_172
theorem dX7_count_60 : decode cX7_count 60 = .ok (.aload_n 0, 1) := dc0 (j := 8) sX7_count_52 rfl op_42
theorem dX7_count_61 : decode cX7_count 61 = .ok (.getfield 10, 3) := dcB (j := 9) (f := Instr.getfield) sX7_count_52 rfl op_180 rfl
theorem dX7_count_64 : decode cX7_count 64 = .ok (.getfield 137, 3) := dcB (j := 12) (f := Instr.getfield) sX7_count_52 rfl op_180 rfl
theorem dX7_count_67 : decode cX7_count 67 = .ok (.ireturn, 1) := dc0 (j := 15) sX7_count_52 rfl op_172
theorem dX7_count_68 : decode cX7_count 68 = .ok (.aload_n 0, 1) := dc0 (j := 16) sX7_count_52 rfl op_42
theorem dX7_count_69 : decode cX7_count 69 = .ok (.getfield 10, 3) := dcB (j := 17) (f := Instr.getfield) sX7_count_52 rfl op_180 rfl
theorem dX7_count_72 : decode cX7_count 72 = .ok (.invokevirtual 164, 3) := dcB (j := 20) (f := Instr.invokevirtual) sX7_count_52 rfl op_182 rfl
theorem dX7_count_75 : decode cX7_count 75 = .ok (.ireturn, 1) := dc0 (j := 23) sX7_count_52 rfl op_172
theorem dX7_count_76 : decode cX7_count 76 = .ok (.aload_n 0, 1) := dc0 (j := 24) sX7_count_52 rfl op_42
theorem dX7_count_77 : decode cX7_count 77 = .ok (.getfield 10, 3) := dcB (j := 25) (f := Instr.getfield) sX7_count_52 rfl op_180 rfl
theorem dX7_count_80 : decode cX7_count 80 = .ok (.getfield 168, 3) := dcB (j := 28) (f := Instr.getfield) sX7_count_52 rfl op_180 rfl
theorem dX7_count_83 : decode cX7_count 83 = .ok (.ireturn, 1) := dc0 (j := 31) sX7_count_52 rfl op_172
theorem dX7_count_84 : decode cX7_count 84 = .ok (.aload_n 0, 1) := dc0 (j := 32) sX7_count_52 rfl op_42
theorem dX7_count_85 : decode cX7_count 85 = .ok (.getfield 10, 3) := dcB (j := 33) (f := Instr.getfield) sX7_count_52 rfl op_180 rfl
theorem sX7_count_88 : sgm cX7_count 88 [182, 1, 37, 172, 42, 180, 0, 10, 182, 1, 40, 172, 42, 180, 0, 36, 180, 0, 62, 172, 42, 180, 0, 10, 180, 0, 85, 172, 42, 180, 0, 10, 180, 1, 43, 172] := by decide +kernel
theorem dX7_count_88 : decode cX7_count 88 = .ok (.invokevirtual 293, 3) := dcB (j := 0) (f := Instr.invokevirtual) sX7_count_88 rfl op_182 rfl
theorem dX7_count_91 : decode cX7_count 91 = .ok (.ireturn, 1) := dc0 (j := 3) sX7_count_88 rfl op_172
theorem dX7_count_92 : decode cX7_count 92 = .ok (.aload_n 0, 1) := dc0 (j := 4) sX7_count_88 rfl op_42
theorem dX7_count_93 : decode cX7_count 93 = .ok (.getfield 10, 3) := dcB (j := 5) (f := Instr.getfield) sX7_count_88 rfl op_180 rfl
theorem dX7_count_96 : decode cX7_count 96 = .ok (.invokevirtual 296, 3) := dcB (j := 8) (f := Instr.invokevirtual) sX7_count_88 rfl op_182 rfl
theorem dX7_count_99 : decode cX7_count 99 = .ok (.ireturn, 1) := dc0 (j := 11) sX7_count_88 rfl op_172
theorem dX7_count_100 : decode cX7_count 100 = .ok (.aload_n 0, 1) := dc0 (j := 12) sX7_count_88 rfl op_42
theorem dX7_count_101 : decode cX7_count 101 = .ok (.getfield 36, 3) := dcB (j := 13) (f := Instr.getfield) sX7_count_88 rfl op_180 rfl
theorem dX7_count_104 : decode cX7_count 104 = .ok (.getfield 62, 3) := dcB (j := 16) (f := Instr.getfield) sX7_count_88 rfl op_180 rfl
theorem dX7_count_107 : decode cX7_count 107 = .ok (.ireturn, 1) := dc0 (j := 19) sX7_count_88 rfl op_172
theorem dX7_count_108 : decode cX7_count 108 = .ok (.aload_n 0, 1) := dc0 (j := 20) sX7_count_88 rfl op_42
theorem dX7_count_109 : decode cX7_count 109 = .ok (.getfield 10, 3) := dcB (j := 21) (f := Instr.getfield) sX7_count_88 rfl op_180 rfl
theorem dX7_count_112 : decode cX7_count 112 = .ok (.getfield 85, 3) := dcB (j := 24) (f := Instr.getfield) sX7_count_88 rfl op_180 rfl
theorem dX7_count_115 : decode cX7_count 115 = .ok (.ireturn, 1) := dc0 (j := 27) sX7_count_88 rfl op_172
theorem dX7_count_116 : decode cX7_count 116 = .ok (.aload_n 0, 1) := dc0 (j := 28) sX7_count_88 rfl op_42
theorem dX7_count_117 : decode cX7_count 117 = .ok (.getfield 10, 3) := dcB (j := 29) (f := Instr.getfield) sX7_count_88 rfl op_180 rfl
theorem dX7_count_120 : decode cX7_count 120 = .ok (.getfield 299, 3) := dcB (j := 32) (f := Instr.getfield) sX7_count_88 rfl op_180 rfl
theorem dX7_count_123 : decode cX7_count 123 = .ok (.ireturn, 1) := dc0 (j := 35) sX7_count_88 rfl op_172
theorem sX7_count_124 : sgm cX7_count 124 [2, 172] := by decide +kernel
theorem dX7_count_124 : decode cX7_count 124 = .ok (.iconst (-1), 1) := dc0 (j := 0) sX7_count_124 rfl op_2
theorem dX7_count_125 : decode cX7_count 125 = .ok (.ireturn, 1) := dc0 (j := 1) sX7_count_124 rfl op_172
theorem sX7_isWithin_0 : sgm cX7_isWithin 0 [26, 27, 161, 0, 12, 26, 28, 163, 0, 7, 4, 167, 0, 4, 3, 172] := by decide +kernel
theorem dX7_isWithin_0 : decode cX7_isWithin 0 = .ok (.iload_n 0, 1) := dc0 (j := 0) sX7_isWithin_0 rfl op_26
theorem dX7_isWithin_1 : decode cX7_isWithin 1 = .ok (.iload_n 1, 1) := dc0 (j := 1) sX7_isWithin_0 rfl op_27
theorem dX7_isWithin_2 : decode cX7_isWithin 2 = .ok (.if_icmp .lt 12, 3) := dcTp (j := 2) (v := 12) (f := Instr.if_icmp .lt) sX7_isWithin_0 rfl op_161 rfl rfl
theorem dX7_isWithin_5 : decode cX7_isWithin 5 = .ok (.iload_n 0, 1) := dc0 (j := 5) sX7_isWithin_0 rfl op_26
theorem dX7_isWithin_6 : decode cX7_isWithin 6 = .ok (.iload_n 2, 1) := dc0 (j := 6) sX7_isWithin_0 rfl op_28
theorem dX7_isWithin_7 : decode cX7_isWithin 7 = .ok (.if_icmp .gt 7, 3) := dcTp (j := 7) (v := 7) (f := Instr.if_icmp .gt) sX7_isWithin_0 rfl op_163 rfl rfl
theorem dX7_isWithin_10 : decode cX7_isWithin 10 = .ok (.iconst 1, 1) := dc0 (j := 10) sX7_isWithin_0 rfl op_4
theorem dX7_isWithin_11 : decode cX7_isWithin 11 = .ok (.goto 4, 3) := dcTp (j := 11) (v := 4) (f := Instr.goto) sX7_isWithin_0 rfl op_167 rfl rfl
theorem dX7_isWithin_14 : decode cX7_isWithin 14 = .ok (.iconst 0, 1) := dc0 (j := 14) sX7_isWithin_0 rfl op_3
theorem dX7_isWithin_15 : decode cX7_isWithin 15 = .ok (.ireturn, 1) := dc0 (j := 15) sX7_isWithin_0 rfl op_172
theorem sX7_isRow_0 : sgm cX7_isRow 0 [26, 155, 0, 12, 26, 7, 162, 0, 7, 4, 167, 0, 4, 3, 172] := by decide +kernel
theorem dX7_isRow_0 : decode cX7_isRow 0 = .ok (.iload_n 0, 1) := dc0 (j := 0) sX7_isRow_0 rfl op_26
theorem dX7_isRow_1 : decode cX7_isRow 1 = .ok (.ifCond .lt 12, 3) := dcTp (j := 1) (v := 12) (f := Instr.ifCond .lt) sX7_isRow_0 rfl op_155 rfl rfl
theorem dX7_isRow_4 : decode cX7_isRow 4 = .ok (.iload_n 0, 1) := dc0 (j := 4) sX7_isRow_0 rfl op_26
theorem dX7_isRow_5 : decode cX7_isRow 5 = .ok (.iconst 4, 1) := dc0 (j := 5) sX7_isRow_0 rfl op_7
theorem dX7_isRow_6 : decode cX7_isRow 6 = .ok (.if_icmp .ge 7, 3) := dcTp (j := 6) (v := 7) (f := Instr.if_icmp .ge) sX7_isRow_0 rfl op_162 rfl rfl
theorem dX7_isRow_9 : decode cX7_isRow 9 = .ok (.iconst 1, 1) := dc0 (j := 9) sX7_isRow_0 rfl op_4
theorem dX7_isRow_10 : decode cX7_isRow 10 = .ok (.goto 4, 3) := dcTp (j := 10) (v := 4) (f := Instr.goto) sX7_isRow_0 rfl op_167 rfl rfl
theorem dX7_isRow_13 : decode cX7_isRow 13 = .ok (.iconst 0, 1) := dc0 (j := 13) sX7_isRow_0 rfl op_3
theorem dX7_isRow_14 : decode cX7_isRow 14 = .ok (.ireturn, 1) := dc0 (j := 14) sX7_isRow_0 rfl op_172
theorem sX7_isImage_0 : sgm cX7_isImage 0 [26, 155, 0, 12, 26, 5, 162, 0, 7, 4, 167, 0, 4, 3, 172] := by decide +kernel
theorem dX7_isImage_0 : decode cX7_isImage 0 = .ok (.iload_n 0, 1) := dc0 (j := 0) sX7_isImage_0 rfl op_26
theorem dX7_isImage_1 : decode cX7_isImage 1 = .ok (.ifCond .lt 12, 3) := dcTp (j := 1) (v := 12) (f := Instr.ifCond .lt) sX7_isImage_0 rfl op_155 rfl rfl
theorem dX7_isImage_4 : decode cX7_isImage 4 = .ok (.iload_n 0, 1) := dc0 (j := 4) sX7_isImage_0 rfl op_26
theorem dX7_isImage_5 : decode cX7_isImage 5 = .ok (.iconst 2, 1) := dc0 (j := 5) sX7_isImage_0 rfl op_5
theorem dX7_isImage_6 : decode cX7_isImage 6 = .ok (.if_icmp .ge 7, 3) := dcTp (j := 6) (v := 7) (f := Instr.if_icmp .ge) sX7_isImage_0 rfl op_162 rfl rfl
theorem dX7_isImage_9 : decode cX7_isImage 9 = .ok (.iconst 1, 1) := dc0 (j := 9) sX7_isImage_0 rfl op_4
theorem dX7_isImage_10 : decode cX7_isImage 10 = .ok (.goto 4, 3) := dcTp (j := 10) (v := 4) (f := Instr.goto) sX7_isImage_0 rfl op_167 rfl rfl
theorem dX7_isImage_13 : decode cX7_isImage 13 = .ok (.iconst 0, 1) := dc0 (j := 13) sX7_isImage_0 rfl op_3
theorem dX7_isImage_14 : decode cX7_isImage 14 = .ok (.ireturn, 1) := dc0 (j := 14) sX7_isImage_0 rfl op_172
theorem sX7_refusedRow_0 : sgm cX7_refusedRow 0 [27, 184, 0, 144, 154, 0, 6, 16, 254, 172, 42, 180, 0, 29, 27, 50, 180, 0, 147, 153, 0, 7, 3, 167, 0, 5, 16, 250, 172] := by decide +kernel
theorem dX7_refusedRow_0 : decode cX7_refusedRow 0 = .ok (.iload_n 1, 1) := dc0 (j := 0) sX7_refusedRow_0 rfl op_27
theorem dX7_refusedRow_1 : decode cX7_refusedRow 1 = .ok (.invokestatic 144, 3) := dcB (j := 1) (f := Instr.invokestatic) sX7_refusedRow_0 rfl op_184 rfl
theorem dX7_refusedRow_4 : decode cX7_refusedRow 4 = .ok (.ifCond .ne 6, 3) := dcTp (j := 4) (v := 6) (f := Instr.ifCond .ne) sX7_refusedRow_0 rfl op_154 rfl rfl
theorem dX7_refusedRow_7 : decode cX7_refusedRow 7 = .ok (.bipush (-2), 2) := dcSn (j := 7) (v := 2) (f := Instr.bipush) sX7_refusedRow_0 rfl op_16 rfl rfl rfl
theorem dX7_refusedRow_9 : decode cX7_refusedRow 9 = .ok (.ireturn, 1) := dc0 (j := 9) sX7_refusedRow_0 rfl op_172
theorem dX7_refusedRow_10 : decode cX7_refusedRow 10 = .ok (.aload_n 0, 1) := dc0 (j := 10) sX7_refusedRow_0 rfl op_42
theorem dX7_refusedRow_11 : decode cX7_refusedRow 11 = .ok (.getfield 29, 3) := dcB (j := 11) (f := Instr.getfield) sX7_refusedRow_0 rfl op_180 rfl
theorem dX7_refusedRow_14 : decode cX7_refusedRow 14 = .ok (.iload_n 1, 1) := dc0 (j := 14) sX7_refusedRow_0 rfl op_27
theorem dX7_refusedRow_15 : decode cX7_refusedRow 15 = .ok (.aaload, 1) := dc0 (j := 15) sX7_refusedRow_0 rfl op_50
theorem dX7_refusedRow_16 : decode cX7_refusedRow 16 = .ok (.getfield 147, 3) := dcB (j := 16) (f := Instr.getfield) sX7_refusedRow_0 rfl op_180 rfl
theorem dX7_refusedRow_19 : decode cX7_refusedRow 19 = .ok (.ifCond .eq 7, 3) := dcTp (j := 19) (v := 7) (f := Instr.ifCond .eq) sX7_refusedRow_0 rfl op_153 rfl rfl
theorem dX7_refusedRow_22 : decode cX7_refusedRow 22 = .ok (.iconst 0, 1) := dc0 (j := 22) sX7_refusedRow_0 rfl op_3
theorem dX7_refusedRow_23 : decode cX7_refusedRow 23 = .ok (.goto 5, 3) := dcTp (j := 23) (v := 5) (f := Instr.goto) sX7_refusedRow_0 rfl op_167 rfl rfl
theorem dX7_refusedRow_26 : decode cX7_refusedRow 26 = .ok (.bipush (-6), 2) := dcSn (j := 26) (v := 6) (f := Instr.bipush) sX7_refusedRow_0 rfl op_16 rfl rfl rfl
theorem dX7_refusedRow_28 : decode cX7_refusedRow 28 = .ok (.ireturn, 1) := dc0 (j := 28) sX7_refusedRow_0 rfl op_172
theorem sX7_refusedSeen_0 : sgm cX7_refusedSeen 0 [42, 27, 182, 0, 171, 61, 28, 153, 0, 5, 28, 172, 42, 180, 0, 29, 27, 50, 180, 1, 23, 42, 180, 0, 10, 180, 0, 184, 160, 0, 7, 3, 167, 0, 5] := by decide +kernel
theorem dX7_refusedSeen_0 : decode cX7_refusedSeen 0 = .ok (.aload_n 0, 1) := dc0 (j := 0) sX7_refusedSeen_0 rfl op_42
theorem dX7_refusedSeen_1 : decode cX7_refusedSeen 1 = .ok (.iload_n 1, 1) := dc0 (j := 1) sX7_refusedSeen_0 rfl op_27
theorem dX7_refusedSeen_2 : decode cX7_refusedSeen 2 = .ok (.invokevirtual 171, 3) := dcB (j := 2) (f := Instr.invokevirtual) sX7_refusedSeen_0 rfl op_182 rfl
theorem dX7_refusedSeen_5 : decode cX7_refusedSeen 5 = .ok (.istore_n 2, 1) := dc0 (j := 5) sX7_refusedSeen_0 rfl op_61
theorem dX7_refusedSeen_6 : decode cX7_refusedSeen 6 = .ok (.iload_n 2, 1) := dc0 (j := 6) sX7_refusedSeen_0 rfl op_28
theorem dX7_refusedSeen_7 : decode cX7_refusedSeen 7 = .ok (.ifCond .eq 5, 3) := dcTp (j := 7) (v := 5) (f := Instr.ifCond .eq) sX7_refusedSeen_0 rfl op_153 rfl rfl
theorem dX7_refusedSeen_10 : decode cX7_refusedSeen 10 = .ok (.iload_n 2, 1) := dc0 (j := 10) sX7_refusedSeen_0 rfl op_28
theorem dX7_refusedSeen_11 : decode cX7_refusedSeen 11 = .ok (.ireturn, 1) := dc0 (j := 11) sX7_refusedSeen_0 rfl op_172
theorem dX7_refusedSeen_12 : decode cX7_refusedSeen 12 = .ok (.aload_n 0, 1) := dc0 (j := 12) sX7_refusedSeen_0 rfl op_42
theorem dX7_refusedSeen_13 : decode cX7_refusedSeen 13 = .ok (.getfield 29, 3) := dcB (j := 13) (f := Instr.getfield) sX7_refusedSeen_0 rfl op_180 rfl
theorem dX7_refusedSeen_16 : decode cX7_refusedSeen 16 = .ok (.iload_n 1, 1) := dc0 (j := 16) sX7_refusedSeen_0 rfl op_27
theorem dX7_refusedSeen_17 : decode cX7_refusedSeen 17 = .ok (.aaload, 1) := dc0 (j := 17) sX7_refusedSeen_0 rfl op_50
theorem dX7_refusedSeen_18 : decode cX7_refusedSeen 18 = .ok (.getfield 279, 3) := dcB (j := 18) (f := Instr.getfield) sX7_refusedSeen_0 rfl op_180 rfl
theorem dX7_refusedSeen_21 : decode cX7_refusedSeen 21 = .ok (.aload_n 0, 1) := dc0 (j := 21) sX7_refusedSeen_0 rfl op_42
theorem dX7_refusedSeen_22 : decode cX7_refusedSeen 22 = .ok (.getfield 10, 3) := dcB (j := 22) (f := Instr.getfield) sX7_refusedSeen_0 rfl op_180 rfl
theorem dX7_refusedSeen_25 : decode cX7_refusedSeen 25 = .ok (.getfield 184, 3) := dcB (j := 25) (f := Instr.getfield) sX7_refusedSeen_0 rfl op_180 rfl
theorem dX7_refusedSeen_28 : decode cX7_refusedSeen 28 = .ok (.if_icmp .ne 7, 3) := dcTp (j := 28) (v := 7) (f := Instr.if_icmp .ne) sX7_refusedSeen_0 rfl op_160 rfl rfl
theorem dX7_refusedSeen_31 : decode cX7_refusedSeen 31 = .ok (.iconst 0, 1) := dc0 (j := 31) sX7_refusedSeen_0 rfl op_3
theorem dX7_refusedSeen_32 : decode cX7_refusedSeen 32 = .ok (.goto 5, 3) := dcTp (j := 32) (v := 5) (f := Instr.goto) sX7_refusedSeen_0 rfl op_167 rfl rfl
theorem sX7_refusedSeen_35 : sgm cX7_refusedSeen 35 [16, 249, 172] := by decide +kernel
theorem dX7_refusedSeen_35 : decode cX7_refusedSeen 35 = .ok (.bipush (-7), 2) := dcSn (j := 0) (v := 7) (f := Instr.bipush) sX7_refusedSeen_35 rfl op_16 rfl rfl rfl
theorem dX7_refusedSeen_37 : decode cX7_refusedSeen 37 = .ok (.ireturn, 1) := dc0 (j := 2) sX7_refusedSeen_35 rfl op_172
theorem sX7_refusedRhythms_0 : sgm cX7_refusedRhythms 0 [42, 27, 182, 0, 249, 62, 29, 153, 0, 5, 29, 172, 28, 4, 16, 12, 184, 0, 70, 153, 0, 7, 3, 167, 0, 5, 16, 253, 172] := by decide +kernel
theorem dX7_refusedRhythms_0 : decode cX7_refusedRhythms 0 = .ok (.aload_n 0, 1) := dc0 (j := 0) sX7_refusedRhythms_0 rfl op_42
theorem dX7_refusedRhythms_1 : decode cX7_refusedRhythms 1 = .ok (.iload_n 1, 1) := dc0 (j := 1) sX7_refusedRhythms_0 rfl op_27
theorem dX7_refusedRhythms_2 : decode cX7_refusedRhythms 2 = .ok (.invokevirtual 249, 3) := dcB (j := 2) (f := Instr.invokevirtual) sX7_refusedRhythms_0 rfl op_182 rfl
theorem dX7_refusedRhythms_5 : decode cX7_refusedRhythms 5 = .ok (.istore_n 3, 1) := dc0 (j := 5) sX7_refusedRhythms_0 rfl op_62
theorem dX7_refusedRhythms_6 : decode cX7_refusedRhythms 6 = .ok (.iload_n 3, 1) := dc0 (j := 6) sX7_refusedRhythms_0 rfl op_29
theorem dX7_refusedRhythms_7 : decode cX7_refusedRhythms 7 = .ok (.ifCond .eq 5, 3) := dcTp (j := 7) (v := 5) (f := Instr.ifCond .eq) sX7_refusedRhythms_0 rfl op_153 rfl rfl
theorem dX7_refusedRhythms_10 : decode cX7_refusedRhythms 10 = .ok (.iload_n 3, 1) := dc0 (j := 10) sX7_refusedRhythms_0 rfl op_29
theorem dX7_refusedRhythms_11 : decode cX7_refusedRhythms 11 = .ok (.ireturn, 1) := dc0 (j := 11) sX7_refusedRhythms_0 rfl op_172
theorem dX7_refusedRhythms_12 : decode cX7_refusedRhythms 12 = .ok (.iload_n 2, 1) := dc0 (j := 12) sX7_refusedRhythms_0 rfl op_28
theorem dX7_refusedRhythms_13 : decode cX7_refusedRhythms 13 = .ok (.iconst 1, 1) := dc0 (j := 13) sX7_refusedRhythms_0 rfl op_4
theorem dX7_refusedRhythms_14 : decode cX7_refusedRhythms 14 = .ok (.bipush 12, 2) := dcSp (j := 14) (a := 12) (f := Instr.bipush) sX7_refusedRhythms_0 rfl op_16 rfl
theorem dX7_refusedRhythms_16 : decode cX7_refusedRhythms 16 = .ok (.invokestatic 70, 3) := dcB (j := 16) (f := Instr.invokestatic) sX7_refusedRhythms_0 rfl op_184 rfl
theorem dX7_refusedRhythms_19 : decode cX7_refusedRhythms 19 = .ok (.ifCond .eq 7, 3) := dcTp (j := 19) (v := 7) (f := Instr.ifCond .eq) sX7_refusedRhythms_0 rfl op_153 rfl rfl
theorem dX7_refusedRhythms_22 : decode cX7_refusedRhythms 22 = .ok (.iconst 0, 1) := dc0 (j := 22) sX7_refusedRhythms_0 rfl op_3
theorem dX7_refusedRhythms_23 : decode cX7_refusedRhythms 23 = .ok (.goto 5, 3) := dcTp (j := 23) (v := 5) (f := Instr.goto) sX7_refusedRhythms_0 rfl op_167 rfl rfl
theorem dX7_refusedRhythms_26 : decode cX7_refusedRhythms 26 = .ok (.bipush (-3), 2) := dcSn (j := 26) (v := 3) (f := Instr.bipush) sX7_refusedRhythms_0 rfl op_16 rfl rfl rfl
theorem dX7_refusedRhythms_28 : decode cX7_refusedRhythms 28 = .ok (.ireturn, 1) := dc0 (j := 28) sX7_refusedRhythms_0 rfl op_172
theorem sX7_isIn_0 : sgm cX7_isIn 0 [26, 27, 122, 4, 126, 153, 0, 7, 4, 167, 0, 4, 3, 172] := by decide +kernel
theorem dX7_isIn_0 : decode cX7_isIn 0 = .ok (.iload_n 0, 1) := dc0 (j := 0) sX7_isIn_0 rfl op_26
theorem dX7_isIn_1 : decode cX7_isIn 1 = .ok (.iload_n 1, 1) := dc0 (j := 1) sX7_isIn_0 rfl op_27
theorem dX7_isIn_2 : decode cX7_isIn 2 = .ok (.ishr, 1) := dc0 (j := 2) sX7_isIn_0 rfl op_122
theorem dX7_isIn_3 : decode cX7_isIn 3 = .ok (.iconst 1, 1) := dc0 (j := 3) sX7_isIn_0 rfl op_4
theorem dX7_isIn_4 : decode cX7_isIn 4 = .ok (.iand, 1) := dc0 (j := 4) sX7_isIn_0 rfl op_126
theorem dX7_isIn_5 : decode cX7_isIn 5 = .ok (.ifCond .eq 7, 3) := dcTp (j := 5) (v := 7) (f := Instr.ifCond .eq) sX7_isIn_0 rfl op_153 rfl rfl
theorem dX7_isIn_8 : decode cX7_isIn 8 = .ok (.iconst 1, 1) := dc0 (j := 8) sX7_isIn_0 rfl op_4
theorem dX7_isIn_9 : decode cX7_isIn 9 = .ok (.goto 4, 3) := dcTp (j := 9) (v := 4) (f := Instr.goto) sX7_isIn_0 rfl op_167 rfl rfl
theorem dX7_isIn_12 : decode cX7_isIn 12 = .ok (.iconst 0, 1) := dc0 (j := 12) sX7_isIn_0 rfl op_3
theorem dX7_isIn_13 : decode cX7_isIn 13 = .ok (.ireturn, 1) := dc0 (j := 13) sX7_isIn_0 rfl op_172
theorem sX7_bounded_0 : sgm cX7_bounded 0 [3, 17, 0, 200, 26, 184, 1, 46, 184, 1, 51, 172] := by decide +kernel
theorem dX7_bounded_0 : decode cX7_bounded 0 = .ok (.iconst 0, 1) := dc0 (j := 0) sX7_bounded_0 rfl op_3
theorem dX7_bounded_1 : decode cX7_bounded 1 = .ok (.sipush 200, 3) := dcTp (j := 1) (v := 200) (f := Instr.sipush) sX7_bounded_0 rfl op_17 rfl rfl
theorem dX7_bounded_4 : decode cX7_bounded 4 = .ok (.iload_n 0, 1) := dc0 (j := 4) sX7_bounded_0 rfl op_26
theorem dX7_bounded_5 : decode cX7_bounded 5 = .ok (.invokestatic 302, 3) := dcB (j := 5) (f := Instr.invokestatic) sX7_bounded_0 rfl op_184 rfl
theorem dX7_bounded_8 : decode cX7_bounded 8 = .ok (.invokestatic 307, 3) := dcB (j := 8) (f := Instr.invokestatic) sX7_bounded_0 rfl op_184 rfl
theorem dX7_bounded_11 : decode cX7_bounded 11 = .ok (.ireturn, 1) := dc0 (j := 11) sX7_bounded_0 rfl op_172
theorem sX8_within_0 : sgm cX8_within 0 [30, 32, 148, 155, 0, 14, 30, 22, 4, 148, 157, 0, 7, 4, 167, 0, 4, 3, 172] := by decide +kernel
theorem dX8_within_0 : decode cX8_within 0 = .ok (.lload_n 0, 1) := dc0 (j := 0) sX8_within_0 rfl op_30
theorem dX8_within_1 : decode cX8_within 1 = .ok (.lload_n 2, 1) := dc0 (j := 1) sX8_within_0 rfl op_32
theorem dX8_within_2 : decode cX8_within 2 = .ok (.lcmp, 1) := dc0 (j := 2) sX8_within_0 rfl op_148
theorem dX8_within_3 : decode cX8_within 3 = .ok (.ifCond .lt 14, 3) := dcTp (j := 3) (v := 14) (f := Instr.ifCond .lt) sX8_within_0 rfl op_155 rfl rfl
theorem dX8_within_6 : decode cX8_within 6 = .ok (.lload_n 0, 1) := dc0 (j := 6) sX8_within_0 rfl op_30
theorem dX8_within_7 : decode cX8_within 7 = .ok (.lload 4, 2) := dcA (j := 7) (f := Instr.lload) sX8_within_0 rfl op_22
theorem dX8_within_9 : decode cX8_within 9 = .ok (.lcmp, 1) := dc0 (j := 9) sX8_within_0 rfl op_148
theorem dX8_within_10 : decode cX8_within 10 = .ok (.ifCond .gt 7, 3) := dcTp (j := 10) (v := 7) (f := Instr.ifCond .gt) sX8_within_0 rfl op_157 rfl rfl
theorem dX8_within_13 : decode cX8_within 13 = .ok (.iconst 1, 1) := dc0 (j := 13) sX8_within_0 rfl op_4
theorem dX8_within_14 : decode cX8_within 14 = .ok (.goto 4, 3) := dcTp (j := 14) (v := 4) (f := Instr.goto) sX8_within_0 rfl op_167 rfl rfl
theorem dX8_within_17 : decode cX8_within 17 = .ok (.iconst 0, 1) := dc0 (j := 17) sX8_within_0 rfl op_3
theorem dX8_within_18 : decode cX8_within 18 = .ok (.ireturn, 1) := dc0 (j := 18) sX8_within_0 rfl op_172
theorem sX8_init_0 : sgm cX8_init 0 [42, 183, 0, 7, 42, 17, 1, 26, 188, 10, 181, 0, 13, 42, 5, 188, 4, 181, 0, 17, 42, 17, 3, 132, 188, 10, 181, 0, 21, 42, 16, 94, 188, 10] := by decide +kernel
theorem dX8_init_0 : decode cX8_init 0 = .ok (.aload_n 0, 1) := dc0 (j := 0) sX8_init_0 rfl op_42
theorem dX8_init_1 : decode cX8_init 1 = .ok (.invokespecial 7, 3) := dcB (j := 1) (f := Instr.invokespecial) sX8_init_0 rfl op_183 rfl
theorem dX8_init_4 : decode cX8_init 4 = .ok (.aload_n 0, 1) := dc0 (j := 4) sX8_init_0 rfl op_42
theorem dX8_init_5 : decode cX8_init 5 = .ok (.sipush 282, 3) := dcTp (j := 5) (v := 282) (f := Instr.sipush) sX8_init_0 rfl op_17 rfl rfl
theorem dX8_init_8 : decode cX8_init 8 = .ok (.newarray .int, 2) := dcN (j := 8) sX8_init_0 rfl na_10
theorem dX8_init_10 : decode cX8_init 10 = .ok (.putfield 13, 3) := dcB (j := 10) (f := Instr.putfield) sX8_init_0 rfl op_181 rfl
theorem dX8_init_13 : decode cX8_init 13 = .ok (.aload_n 0, 1) := dc0 (j := 13) sX8_init_0 rfl op_42
theorem dX8_init_14 : decode cX8_init 14 = .ok (.iconst 2, 1) := dc0 (j := 14) sX8_init_0 rfl op_5
theorem dX8_init_15 : decode cX8_init 15 = .ok (.newarray .boolean, 2) := dcN (j := 15) sX8_init_0 rfl na_4
theorem dX8_init_17 : decode cX8_init 17 = .ok (.putfield 17, 3) := dcB (j := 17) (f := Instr.putfield) sX8_init_0 rfl op_181 rfl
theorem dX8_init_20 : decode cX8_init 20 = .ok (.aload_n 0, 1) := dc0 (j := 20) sX8_init_0 rfl op_42
theorem dX8_init_21 : decode cX8_init 21 = .ok (.sipush 900, 3) := dcTp (j := 21) (v := 900) (f := Instr.sipush) sX8_init_0 rfl op_17 rfl rfl
theorem dX8_init_24 : decode cX8_init 24 = .ok (.newarray .int, 2) := dcN (j := 24) sX8_init_0 rfl na_10
theorem dX8_init_26 : decode cX8_init 26 = .ok (.putfield 21, 3) := dcB (j := 26) (f := Instr.putfield) sX8_init_0 rfl op_181 rfl
theorem dX8_init_29 : decode cX8_init 29 = .ok (.aload_n 0, 1) := dc0 (j := 29) sX8_init_0 rfl op_42
theorem dX8_init_30 : decode cX8_init 30 = .ok (.bipush 94, 2) := dcSp (j := 30) (a := 94) (f := Instr.bipush) sX8_init_0 rfl op_16 rfl
theorem dX8_init_32 : decode cX8_init 32 = .ok (.newarray .int, 2) := dcN (j := 32) sX8_init_0 rfl na_10
theorem sX8_init_34 : sgm cX8_init 34 [181, 0, 24, 42, 2, 181, 0, 27, 42, 16, 10, 188, 10, 181, 0, 30, 42, 16, 94, 188, 10, 181, 0, 33, 42, 16, 10, 188, 11, 181, 0, 36, 42, 16, 10] := by decide +kernel
theorem dX8_init_34 : decode cX8_init 34 = .ok (.putfield 24, 3) := dcB (j := 0) (f := Instr.putfield) sX8_init_34 rfl op_181 rfl
theorem dX8_init_37 : decode cX8_init 37 = .ok (.aload_n 0, 1) := dc0 (j := 3) sX8_init_34 rfl op_42
theorem dX8_init_38 : decode cX8_init 38 = .ok (.iconst (-1), 1) := dc0 (j := 4) sX8_init_34 rfl op_2
theorem dX8_init_39 : decode cX8_init 39 = .ok (.putfield 27, 3) := dcB (j := 5) (f := Instr.putfield) sX8_init_34 rfl op_181 rfl
theorem dX8_init_42 : decode cX8_init 42 = .ok (.aload_n 0, 1) := dc0 (j := 8) sX8_init_34 rfl op_42
theorem dX8_init_43 : decode cX8_init 43 = .ok (.bipush 10, 2) := dcSp (j := 9) (a := 10) (f := Instr.bipush) sX8_init_34 rfl op_16 rfl
theorem dX8_init_45 : decode cX8_init 45 = .ok (.newarray .int, 2) := dcN (j := 11) sX8_init_34 rfl na_10
theorem dX8_init_47 : decode cX8_init 47 = .ok (.putfield 30, 3) := dcB (j := 13) (f := Instr.putfield) sX8_init_34 rfl op_181 rfl
theorem dX8_init_50 : decode cX8_init 50 = .ok (.aload_n 0, 1) := dc0 (j := 16) sX8_init_34 rfl op_42
theorem dX8_init_51 : decode cX8_init 51 = .ok (.bipush 94, 2) := dcSp (j := 17) (a := 94) (f := Instr.bipush) sX8_init_34 rfl op_16 rfl
theorem dX8_init_53 : decode cX8_init 53 = .ok (.newarray .int, 2) := dcN (j := 19) sX8_init_34 rfl na_10
theorem dX8_init_55 : decode cX8_init 55 = .ok (.putfield 33, 3) := dcB (j := 21) (f := Instr.putfield) sX8_init_34 rfl op_181 rfl
theorem dX8_init_58 : decode cX8_init 58 = .ok (.aload_n 0, 1) := dc0 (j := 24) sX8_init_34 rfl op_42
theorem dX8_init_59 : decode cX8_init 59 = .ok (.bipush 10, 2) := dcSp (j := 25) (a := 10) (f := Instr.bipush) sX8_init_34 rfl op_16 rfl
theorem dX8_init_61 : decode cX8_init 61 = .ok (.newarray .long, 2) := dcN (j := 27) sX8_init_34 rfl na_11
theorem dX8_init_63 : decode cX8_init 63 = .ok (.putfield 36, 3) := dcB (j := 29) (f := Instr.putfield) sX8_init_34 rfl op_181 rfl
theorem dX8_init_66 : decode cX8_init 66 = .ok (.aload_n 0, 1) := dc0 (j := 32) sX8_init_34 rfl op_42
theorem dX8_init_67 : decode cX8_init 67 = .ok (.bipush 10, 2) := dcSp (j := 33) (a := 10) (f := Instr.bipush) sX8_init_34 rfl op_16 rfl
theorem sX8_init_69 : sgm cX8_init 69 [188, 11, 181, 0, 40, 42, 17, 11, 185, 188, 11, 181, 0, 43, 42, 17, 32, 0, 188, 10, 181, 0, 46, 42, 16, 7, 188, 10, 181, 0, 49, 42, 16, 7, 188, 10] := by decide +kernel
theorem dX8_init_69 : decode cX8_init 69 = .ok (.newarray .long, 2) := dcN (j := 0) sX8_init_69 rfl na_11
theorem dX8_init_71 : decode cX8_init 71 = .ok (.putfield 40, 3) := dcB (j := 2) (f := Instr.putfield) sX8_init_69 rfl op_181 rfl
theorem dX8_init_74 : decode cX8_init 74 = .ok (.aload_n 0, 1) := dc0 (j := 5) sX8_init_69 rfl op_42
theorem dX8_init_75 : decode cX8_init 75 = .ok (.sipush 3001, 3) := dcTp (j := 6) (v := 3001) (f := Instr.sipush) sX8_init_69 rfl op_17 rfl rfl
theorem dX8_init_78 : decode cX8_init 78 = .ok (.newarray .long, 2) := dcN (j := 9) sX8_init_69 rfl na_11
theorem dX8_init_80 : decode cX8_init 80 = .ok (.putfield 43, 3) := dcB (j := 11) (f := Instr.putfield) sX8_init_69 rfl op_181 rfl
theorem dX8_init_83 : decode cX8_init 83 = .ok (.aload_n 0, 1) := dc0 (j := 14) sX8_init_69 rfl op_42
theorem dX8_init_84 : decode cX8_init 84 = .ok (.sipush 8192, 3) := dcTp (j := 15) (v := 8192) (f := Instr.sipush) sX8_init_69 rfl op_17 rfl rfl
theorem dX8_init_87 : decode cX8_init 87 = .ok (.newarray .int, 2) := dcN (j := 18) sX8_init_69 rfl na_10
theorem dX8_init_89 : decode cX8_init 89 = .ok (.putfield 46, 3) := dcB (j := 20) (f := Instr.putfield) sX8_init_69 rfl op_181 rfl
theorem dX8_init_92 : decode cX8_init 92 = .ok (.aload_n 0, 1) := dc0 (j := 23) sX8_init_69 rfl op_42
theorem dX8_init_93 : decode cX8_init 93 = .ok (.bipush 7, 2) := dcSp (j := 24) (a := 7) (f := Instr.bipush) sX8_init_69 rfl op_16 rfl
theorem dX8_init_95 : decode cX8_init 95 = .ok (.newarray .int, 2) := dcN (j := 26) sX8_init_69 rfl na_10
theorem dX8_init_97 : decode cX8_init 97 = .ok (.putfield 49, 3) := dcB (j := 28) (f := Instr.putfield) sX8_init_69 rfl op_181 rfl
theorem dX8_init_100 : decode cX8_init 100 = .ok (.aload_n 0, 1) := dc0 (j := 31) sX8_init_69 rfl op_42
theorem dX8_init_101 : decode cX8_init 101 = .ok (.bipush 7, 2) := dcSp (j := 32) (a := 7) (f := Instr.bipush) sX8_init_69 rfl op_16 rfl
theorem dX8_init_103 : decode cX8_init 103 = .ok (.newarray .int, 2) := dcN (j := 34) sX8_init_69 rfl na_10
theorem sX8_init_105 : sgm cX8_init 105 [181, 0, 52, 42, 7, 188, 10, 89, 3, 2, 79, 89, 4, 2, 79, 89, 5, 2, 79, 89, 6, 2, 79, 181, 0, 55, 42, 7, 188, 10, 181, 0, 58, 42] := by decide +kernel
theorem dX8_init_105 : decode cX8_init 105 = .ok (.putfield 52, 3) := dcB (j := 0) (f := Instr.putfield) sX8_init_105 rfl op_181 rfl
theorem dX8_init_108 : decode cX8_init 108 = .ok (.aload_n 0, 1) := dc0 (j := 3) sX8_init_105 rfl op_42
theorem dX8_init_109 : decode cX8_init 109 = .ok (.iconst 4, 1) := dc0 (j := 4) sX8_init_105 rfl op_7
theorem dX8_init_110 : decode cX8_init 110 = .ok (.newarray .int, 2) := dcN (j := 5) sX8_init_105 rfl na_10
theorem dX8_init_112 : decode cX8_init 112 = .ok (.dup, 1) := dc0 (j := 7) sX8_init_105 rfl op_89
theorem dX8_init_113 : decode cX8_init 113 = .ok (.iconst 0, 1) := dc0 (j := 8) sX8_init_105 rfl op_3
theorem dX8_init_114 : decode cX8_init 114 = .ok (.iconst (-1), 1) := dc0 (j := 9) sX8_init_105 rfl op_2
theorem dX8_init_115 : decode cX8_init 115 = .ok (.iastore, 1) := dc0 (j := 10) sX8_init_105 rfl op_79
theorem dX8_init_116 : decode cX8_init 116 = .ok (.dup, 1) := dc0 (j := 11) sX8_init_105 rfl op_89
theorem dX8_init_117 : decode cX8_init 117 = .ok (.iconst 1, 1) := dc0 (j := 12) sX8_init_105 rfl op_4
theorem dX8_init_118 : decode cX8_init 118 = .ok (.iconst (-1), 1) := dc0 (j := 13) sX8_init_105 rfl op_2
theorem dX8_init_119 : decode cX8_init 119 = .ok (.iastore, 1) := dc0 (j := 14) sX8_init_105 rfl op_79
theorem dX8_init_120 : decode cX8_init 120 = .ok (.dup, 1) := dc0 (j := 15) sX8_init_105 rfl op_89
theorem dX8_init_121 : decode cX8_init 121 = .ok (.iconst 2, 1) := dc0 (j := 16) sX8_init_105 rfl op_5
theorem dX8_init_122 : decode cX8_init 122 = .ok (.iconst (-1), 1) := dc0 (j := 17) sX8_init_105 rfl op_2
theorem dX8_init_123 : decode cX8_init 123 = .ok (.iastore, 1) := dc0 (j := 18) sX8_init_105 rfl op_79
theorem dX8_init_124 : decode cX8_init 124 = .ok (.dup, 1) := dc0 (j := 19) sX8_init_105 rfl op_89
theorem dX8_init_125 : decode cX8_init 125 = .ok (.iconst 3, 1) := dc0 (j := 20) sX8_init_105 rfl op_6
theorem dX8_init_126 : decode cX8_init 126 = .ok (.iconst (-1), 1) := dc0 (j := 21) sX8_init_105 rfl op_2
theorem dX8_init_127 : decode cX8_init 127 = .ok (.iastore, 1) := dc0 (j := 22) sX8_init_105 rfl op_79
theorem dX8_init_128 : decode cX8_init 128 = .ok (.putfield 55, 3) := dcB (j := 23) (f := Instr.putfield) sX8_init_105 rfl op_181 rfl
theorem dX8_init_131 : decode cX8_init 131 = .ok (.aload_n 0, 1) := dc0 (j := 26) sX8_init_105 rfl op_42
theorem dX8_init_132 : decode cX8_init 132 = .ok (.iconst 4, 1) := dc0 (j := 27) sX8_init_105 rfl op_7
theorem dX8_init_133 : decode cX8_init 133 = .ok (.newarray .int, 2) := dcN (j := 28) sX8_init_105 rfl na_10
theorem dX8_init_135 : decode cX8_init 135 = .ok (.putfield 58, 3) := dcB (j := 30) (f := Instr.putfield) sX8_init_105 rfl op_181 rfl
theorem dX8_init_138 : decode cX8_init 138 = .ok (.aload_n 0, 1) := dc0 (j := 33) sX8_init_105 rfl op_42
theorem sX8_init_139 : sgm cX8_init 139 [17, 0, 160, 188, 11, 181, 0, 61, 42, 180, 0, 13, 5, 16, 20, 79, 177] := by decide +kernel
theorem dX8_init_139 : decode cX8_init 139 = .ok (.sipush 160, 3) := dcTp (j := 0) (v := 160) (f := Instr.sipush) sX8_init_139 rfl op_17 rfl rfl
theorem dX8_init_142 : decode cX8_init 142 = .ok (.newarray .long, 2) := dcN (j := 3) sX8_init_139 rfl na_11
theorem dX8_init_144 : decode cX8_init 144 = .ok (.putfield 61, 3) := dcB (j := 5) (f := Instr.putfield) sX8_init_139 rfl op_181 rfl
theorem dX8_init_147 : decode cX8_init 147 = .ok (.aload_n 0, 1) := dc0 (j := 8) sX8_init_139 rfl op_42
theorem dX8_init_148 : decode cX8_init 148 = .ok (.getfield 13, 3) := dcB (j := 9) (f := Instr.getfield) sX8_init_139 rfl op_180 rfl
theorem dX8_init_151 : decode cX8_init 151 = .ok (.iconst 2, 1) := dc0 (j := 12) sX8_init_139 rfl op_5
theorem dX8_init_152 : decode cX8_init 152 = .ok (.bipush 20, 2) := dcSp (j := 13) (a := 20) (f := Instr.bipush) sX8_init_139 rfl op_16 rfl
theorem dX8_init_154 : decode cX8_init 154 = .ok (.iastore, 1) := dc0 (j := 15) sX8_init_139 rfl op_79
theorem dX8_init_155 : decode cX8_init 155 = .ok (.return_, 1) := dc0 (j := 16) sX8_init_139 rfl op_177
theorem sX8_feed_0 : sgm cX8_feed 0 [42, 3, 181, 0, 1, 42, 180, 0, 64, 16, 20, 96, 17, 3, 132, 164, 0, 6, 16, 251, 172, 3, 54, 6, 21, 6, 16, 20, 162, 0, 93, 21, 6, 7] := by decide +kernel
theorem dX8_feed_0 : decode cX8_feed 0 = .ok (.aload_n 0, 1) := dc0 (j := 0) sX8_feed_0 rfl op_42
theorem dX8_feed_1 : decode cX8_feed 1 = .ok (.iconst 0, 1) := dc0 (j := 1) sX8_feed_0 rfl op_3
theorem dX8_feed_2 : decode cX8_feed 2 = .ok (.putfield 1, 3) := dcB (j := 2) (f := Instr.putfield) sX8_feed_0 rfl op_181 rfl
theorem dX8_feed_5 : decode cX8_feed 5 = .ok (.aload_n 0, 1) := dc0 (j := 5) sX8_feed_0 rfl op_42
theorem dX8_feed_6 : decode cX8_feed 6 = .ok (.getfield 64, 3) := dcB (j := 6) (f := Instr.getfield) sX8_feed_0 rfl op_180 rfl
theorem dX8_feed_9 : decode cX8_feed 9 = .ok (.bipush 20, 2) := dcSp (j := 9) (a := 20) (f := Instr.bipush) sX8_feed_0 rfl op_16 rfl
theorem dX8_feed_11 : decode cX8_feed 11 = .ok (.iadd, 1) := dc0 (j := 11) sX8_feed_0 rfl op_96
theorem dX8_feed_12 : decode cX8_feed 12 = .ok (.sipush 900, 3) := dcTp (j := 12) (v := 900) (f := Instr.sipush) sX8_feed_0 rfl op_17 rfl rfl
theorem dX8_feed_15 : decode cX8_feed 15 = .ok (.if_icmp .le 6, 3) := dcTp (j := 15) (v := 6) (f := Instr.if_icmp .le) sX8_feed_0 rfl op_164 rfl rfl
theorem dX8_feed_18 : decode cX8_feed 18 = .ok (.bipush (-5), 2) := dcSn (j := 18) (v := 5) (f := Instr.bipush) sX8_feed_0 rfl op_16 rfl rfl rfl
theorem dX8_feed_20 : decode cX8_feed 20 = .ok (.ireturn, 1) := dc0 (j := 20) sX8_feed_0 rfl op_172
theorem dX8_feed_21 : decode cX8_feed 21 = .ok (.iconst 0, 1) := dc0 (j := 21) sX8_feed_0 rfl op_3
theorem dX8_feed_22 : decode cX8_feed 22 = .ok (.istore 6, 2) := dcA (j := 22) (f := Instr.istore) sX8_feed_0 rfl op_54
theorem dX8_feed_24 : decode cX8_feed 24 = .ok (.iload 6, 2) := dcA (j := 24) (f := Instr.iload) sX8_feed_0 rfl op_21
theorem dX8_feed_26 : decode cX8_feed 26 = .ok (.bipush 20, 2) := dcSp (j := 26) (a := 20) (f := Instr.bipush) sX8_feed_0 rfl op_16 rfl
theorem dX8_feed_28 : decode cX8_feed 28 = .ok (.if_icmp .ge 93, 3) := dcTp (j := 28) (v := 93) (f := Instr.if_icmp .ge) sX8_feed_0 rfl op_162 rfl rfl
theorem dX8_feed_31 : decode cX8_feed 31 = .ok (.iload 6, 2) := dcA (j := 31) (f := Instr.iload) sX8_feed_0 rfl op_21
theorem dX8_feed_33 : decode cX8_feed 33 = .ok (.iconst 4, 1) := dc0 (j := 33) sX8_feed_0 rfl op_7
theorem sX8_feed_34 : sgm cX8_feed 34 [162, 0, 7, 27, 167, 0, 39, 21, 6, 16, 8, 162, 0, 7, 28, 167, 0, 28, 21, 6, 16, 12, 162, 0, 7, 29, 167, 0, 17, 21, 6, 16, 16, 162, 0, 8] := by decide +kernel
theorem dX8_feed_34 : decode cX8_feed 34 = .ok (.if_icmp .ge 7, 3) := dcTp (j := 0) (v := 7) (f := Instr.if_icmp .ge) sX8_feed_34 rfl op_162 rfl rfl
theorem dX8_feed_37 : decode cX8_feed 37 = .ok (.iload_n 1, 1) := dc0 (j := 3) sX8_feed_34 rfl op_27
theorem dX8_feed_38 : decode cX8_feed 38 = .ok (.goto 39, 3) := dcTp (j := 4) (v := 39) (f := Instr.goto) sX8_feed_34 rfl op_167 rfl rfl
theorem dX8_feed_41 : decode cX8_feed 41 = .ok (.iload 6, 2) := dcA (j := 7) (f := Instr.iload) sX8_feed_34 rfl op_21
theorem dX8_feed_43 : decode cX8_feed 43 = .ok (.bipush 8, 2) := dcSp (j := 9) (a := 8) (f := Instr.bipush) sX8_feed_34 rfl op_16 rfl
theorem dX8_feed_45 : decode cX8_feed 45 = .ok (.if_icmp .ge 7, 3) := dcTp (j := 11) (v := 7) (f := Instr.if_icmp .ge) sX8_feed_34 rfl op_162 rfl rfl
theorem dX8_feed_48 : decode cX8_feed 48 = .ok (.iload_n 2, 1) := dc0 (j := 14) sX8_feed_34 rfl op_28
theorem dX8_feed_49 : decode cX8_feed 49 = .ok (.goto 28, 3) := dcTp (j := 15) (v := 28) (f := Instr.goto) sX8_feed_34 rfl op_167 rfl rfl
theorem dX8_feed_52 : decode cX8_feed 52 = .ok (.iload 6, 2) := dcA (j := 18) (f := Instr.iload) sX8_feed_34 rfl op_21
theorem dX8_feed_54 : decode cX8_feed 54 = .ok (.bipush 12, 2) := dcSp (j := 20) (a := 12) (f := Instr.bipush) sX8_feed_34 rfl op_16 rfl
theorem dX8_feed_56 : decode cX8_feed 56 = .ok (.if_icmp .ge 7, 3) := dcTp (j := 22) (v := 7) (f := Instr.if_icmp .ge) sX8_feed_34 rfl op_162 rfl rfl
theorem dX8_feed_59 : decode cX8_feed 59 = .ok (.iload_n 3, 1) := dc0 (j := 25) sX8_feed_34 rfl op_29
theorem dX8_feed_60 : decode cX8_feed 60 = .ok (.goto 17, 3) := dcTp (j := 26) (v := 17) (f := Instr.goto) sX8_feed_34 rfl op_167 rfl rfl
theorem dX8_feed_63 : decode cX8_feed 63 = .ok (.iload 6, 2) := dcA (j := 29) (f := Instr.iload) sX8_feed_34 rfl op_21
theorem dX8_feed_65 : decode cX8_feed 65 = .ok (.bipush 16, 2) := dcSp (j := 31) (a := 16) (f := Instr.bipush) sX8_feed_34 rfl op_16 rfl
theorem dX8_feed_67 : decode cX8_feed 67 = .ok (.if_icmp .ge 8, 3) := dcTp (j := 33) (v := 8) (f := Instr.if_icmp .ge) sX8_feed_34 rfl op_162 rfl rfl
theorem sX8_feed_70 : sgm cX8_feed 70 [21, 4, 167, 0, 5, 21, 5, 54, 7, 42, 180, 0, 21, 42, 180, 0, 64, 21, 7, 16, 24, 16, 8, 21, 6, 7, 112, 104, 100, 122, 17, 0, 255, 126, 79, 42] := by decide +kernel
theorem dX8_feed_70 : decode cX8_feed 70 = .ok (.iload 4, 2) := dcA (j := 0) (f := Instr.iload) sX8_feed_70 rfl op_21
theorem dX8_feed_72 : decode cX8_feed 72 = .ok (.goto 5, 3) := dcTp (j := 2) (v := 5) (f := Instr.goto) sX8_feed_70 rfl op_167 rfl rfl
theorem dX8_feed_75 : decode cX8_feed 75 = .ok (.iload 5, 2) := dcA (j := 5) (f := Instr.iload) sX8_feed_70 rfl op_21
theorem dX8_feed_77 : decode cX8_feed 77 = .ok (.istore 7, 2) := dcA (j := 7) (f := Instr.istore) sX8_feed_70 rfl op_54
theorem dX8_feed_79 : decode cX8_feed 79 = .ok (.aload_n 0, 1) := dc0 (j := 9) sX8_feed_70 rfl op_42
theorem dX8_feed_80 : decode cX8_feed 80 = .ok (.getfield 21, 3) := dcB (j := 10) (f := Instr.getfield) sX8_feed_70 rfl op_180 rfl
theorem dX8_feed_83 : decode cX8_feed 83 = .ok (.aload_n 0, 1) := dc0 (j := 13) sX8_feed_70 rfl op_42
theorem dX8_feed_84 : decode cX8_feed 84 = .ok (.getfield 64, 3) := dcB (j := 14) (f := Instr.getfield) sX8_feed_70 rfl op_180 rfl
theorem dX8_feed_87 : decode cX8_feed 87 = .ok (.iload 7, 2) := dcA (j := 17) (f := Instr.iload) sX8_feed_70 rfl op_21
theorem dX8_feed_89 : decode cX8_feed 89 = .ok (.bipush 24, 2) := dcSp (j := 19) (a := 24) (f := Instr.bipush) sX8_feed_70 rfl op_16 rfl
theorem dX8_feed_91 : decode cX8_feed 91 = .ok (.bipush 8, 2) := dcSp (j := 21) (a := 8) (f := Instr.bipush) sX8_feed_70 rfl op_16 rfl
theorem dX8_feed_93 : decode cX8_feed 93 = .ok (.iload 6, 2) := dcA (j := 23) (f := Instr.iload) sX8_feed_70 rfl op_21
theorem dX8_feed_95 : decode cX8_feed 95 = .ok (.iconst 4, 1) := dc0 (j := 25) sX8_feed_70 rfl op_7
theorem dX8_feed_96 : decode cX8_feed 96 = .ok (.irem, 1) := dc0 (j := 26) sX8_feed_70 rfl op_112
theorem dX8_feed_97 : decode cX8_feed 97 = .ok (.imul, 1) := dc0 (j := 27) sX8_feed_70 rfl op_104
theorem dX8_feed_98 : decode cX8_feed 98 = .ok (.isub, 1) := dc0 (j := 28) sX8_feed_70 rfl op_100
theorem dX8_feed_99 : decode cX8_feed 99 = .ok (.ishr, 1) := dc0 (j := 29) sX8_feed_70 rfl op_122
theorem dX8_feed_100 : decode cX8_feed 100 = .ok (.sipush 255, 3) := dcTp (j := 30) (v := 255) (f := Instr.sipush) sX8_feed_70 rfl op_17 rfl rfl
theorem dX8_feed_103 : decode cX8_feed 103 = .ok (.iand, 1) := dc0 (j := 33) sX8_feed_70 rfl op_126
theorem dX8_feed_104 : decode cX8_feed 104 = .ok (.iastore, 1) := dc0 (j := 34) sX8_feed_70 rfl op_79
theorem dX8_feed_105 : decode cX8_feed 105 = .ok (.aload_n 0, 1) := dc0 (j := 35) sX8_feed_70 rfl op_42
theorem sX8_feed_106 : sgm cX8_feed 106 [89, 180, 0, 64, 4, 96, 181, 0, 64, 132, 6, 1, 167, 255, 162, 42, 180, 0, 64, 172] := by decide +kernel
theorem dX8_feed_106 : decode cX8_feed 106 = .ok (.dup, 1) := dc0 (j := 0) sX8_feed_106 rfl op_89
theorem dX8_feed_107 : decode cX8_feed 107 = .ok (.getfield 64, 3) := dcB (j := 1) (f := Instr.getfield) sX8_feed_106 rfl op_180 rfl
theorem dX8_feed_110 : decode cX8_feed 110 = .ok (.iconst 1, 1) := dc0 (j := 4) sX8_feed_106 rfl op_4
theorem dX8_feed_111 : decode cX8_feed 111 = .ok (.iadd, 1) := dc0 (j := 5) sX8_feed_106 rfl op_96
theorem dX8_feed_112 : decode cX8_feed 112 = .ok (.putfield 64, 3) := dcB (j := 6) (f := Instr.putfield) sX8_feed_106 rfl op_181 rfl
theorem dX8_feed_115 : decode cX8_feed 115 = .ok (.iinc 6 1, 3) := dcIp (j := 9) sX8_feed_106 rfl op_132 rfl
theorem dX8_feed_118 : decode cX8_feed 118 = .ok (.goto (-94), 3) := dcTn (j := 12) (v := 94) (f := Instr.goto) sX8_feed_106 rfl op_167 rfl rfl rfl
theorem dX8_feed_121 : decode cX8_feed 121 = .ok (.aload_n 0, 1) := dc0 (j := 15) sX8_feed_106 rfl op_42
theorem dX8_feed_122 : decode cX8_feed 122 = .ok (.getfield 64, 3) := dcB (j := 16) (f := Instr.getfield) sX8_feed_106 rfl op_180 rfl
theorem dX8_feed_125 : decode cX8_feed 125 = .ok (.ireturn, 1) := dc0 (j := 19) sX8_feed_106 rfl op_172
theorem sX8_see_0 : sgm cX8_see 0 [27, 42, 180, 0, 67, 162, 0, 12, 42, 180, 0, 21, 27, 46, 167, 0, 4, 2, 172] := by decide +kernel
theorem dX8_see_0 : decode cX8_see 0 = .ok (.iload_n 1, 1) := dc0 (j := 0) sX8_see_0 rfl op_27
theorem dX8_see_1 : decode cX8_see 1 = .ok (.aload_n 0, 1) := dc0 (j := 1) sX8_see_0 rfl op_42
theorem dX8_see_2 : decode cX8_see 2 = .ok (.getfield 67, 3) := dcB (j := 2) (f := Instr.getfield) sX8_see_0 rfl op_180 rfl
theorem dX8_see_5 : decode cX8_see 5 = .ok (.if_icmp .ge 12, 3) := dcTp (j := 5) (v := 12) (f := Instr.if_icmp .ge) sX8_see_0 rfl op_162 rfl rfl
theorem dX8_see_8 : decode cX8_see 8 = .ok (.aload_n 0, 1) := dc0 (j := 8) sX8_see_0 rfl op_42
theorem dX8_see_9 : decode cX8_see 9 = .ok (.getfield 21, 3) := dcB (j := 9) (f := Instr.getfield) sX8_see_0 rfl op_180 rfl
theorem dX8_see_12 : decode cX8_see 12 = .ok (.iload_n 1, 1) := dc0 (j := 12) sX8_see_0 rfl op_27
theorem dX8_see_13 : decode cX8_see 13 = .ok (.iaload, 1) := dc0 (j := 13) sX8_see_0 rfl op_46
theorem dX8_see_14 : decode cX8_see 14 = .ok (.goto 4, 3) := dcTp (j := 14) (v := 4) (f := Instr.goto) sX8_see_0 rfl op_167 rfl rfl
theorem dX8_see_17 : decode cX8_see 17 = .ok (.iconst (-1), 1) := dc0 (j := 17) sX8_see_0 rfl op_2
theorem dX8_see_18 : decode cX8_see 18 = .ok (.ireturn, 1) := dc0 (j := 18) sX8_see_0 rfl op_172
theorem sX8_isSmall_0 : sgm cX8_isSmall 0 [26, 16, 97, 161, 0, 13, 26, 16, 122, 163, 0, 7, 4, 167, 0, 4, 3, 172] := by decide +kernel
theorem dX8_isSmall_0 : decode cX8_isSmall 0 = .ok (.iload_n 0, 1) := dc0 (j := 0) sX8_isSmall_0 rfl op_26
theorem dX8_isSmall_1 : decode cX8_isSmall 1 = .ok (.bipush 97, 2) := dcSp (j := 1) (a := 97) (f := Instr.bipush) sX8_isSmall_0 rfl op_16 rfl
theorem dX8_isSmall_3 : decode cX8_isSmall 3 = .ok (.if_icmp .lt 13, 3) := dcTp (j := 3) (v := 13) (f := Instr.if_icmp .lt) sX8_isSmall_0 rfl op_161 rfl rfl
theorem dX8_isSmall_6 : decode cX8_isSmall 6 = .ok (.iload_n 0, 1) := dc0 (j := 6) sX8_isSmall_0 rfl op_26
theorem dX8_isSmall_7 : decode cX8_isSmall 7 = .ok (.bipush 122, 2) := dcSp (j := 7) (a := 122) (f := Instr.bipush) sX8_isSmall_0 rfl op_16 rfl
theorem dX8_isSmall_9 : decode cX8_isSmall 9 = .ok (.if_icmp .gt 7, 3) := dcTp (j := 9) (v := 7) (f := Instr.if_icmp .gt) sX8_isSmall_0 rfl op_163 rfl rfl
theorem dX8_isSmall_12 : decode cX8_isSmall 12 = .ok (.iconst 1, 1) := dc0 (j := 12) sX8_isSmall_0 rfl op_4
theorem dX8_isSmall_13 : decode cX8_isSmall 13 = .ok (.goto 4, 3) := dcTp (j := 13) (v := 4) (f := Instr.goto) sX8_isSmall_0 rfl op_167 rfl rfl
theorem dX8_isSmall_16 : decode cX8_isSmall 16 = .ok (.iconst 0, 1) := dc0 (j := 16) sX8_isSmall_0 rfl op_3
theorem dX8_isSmall_17 : decode cX8_isSmall 17 = .ok (.ireturn, 1) := dc0 (j := 17) sX8_isSmall_0 rfl op_172
theorem sX8_isDigit_0 : sgm cX8_isDigit 0 [26, 16, 48, 161, 0, 13, 26, 16, 57, 163, 0, 7, 4, 167, 0, 4, 3, 172] := by decide +kernel
theorem dX8_isDigit_0 : decode cX8_isDigit 0 = .ok (.iload_n 0, 1) := dc0 (j := 0) sX8_isDigit_0 rfl op_26
theorem dX8_isDigit_1 : decode cX8_isDigit 1 = .ok (.bipush 48, 2) := dcSp (j := 1) (a := 48) (f := Instr.bipush) sX8_isDigit_0 rfl op_16 rfl
theorem dX8_isDigit_3 : decode cX8_isDigit 3 = .ok (.if_icmp .lt 13, 3) := dcTp (j := 3) (v := 13) (f := Instr.if_icmp .lt) sX8_isDigit_0 rfl op_161 rfl rfl
theorem dX8_isDigit_6 : decode cX8_isDigit 6 = .ok (.iload_n 0, 1) := dc0 (j := 6) sX8_isDigit_0 rfl op_26
theorem dX8_isDigit_7 : decode cX8_isDigit 7 = .ok (.bipush 57, 2) := dcSp (j := 7) (a := 57) (f := Instr.bipush) sX8_isDigit_0 rfl op_16 rfl
theorem dX8_isDigit_9 : decode cX8_isDigit 9 = .ok (.if_icmp .gt 7, 3) := dcTp (j := 9) (v := 7) (f := Instr.if_icmp .gt) sX8_isDigit_0 rfl op_163 rfl rfl
theorem dX8_isDigit_12 : decode cX8_isDigit 12 = .ok (.iconst 1, 1) := dc0 (j := 12) sX8_isDigit_0 rfl op_4
theorem dX8_isDigit_13 : decode cX8_isDigit 13 = .ok (.goto 4, 3) := dcTp (j := 13) (v := 4) (f := Instr.goto) sX8_isDigit_0 rfl op_167 rfl rfl
theorem dX8_isDigit_16 : decode cX8_isDigit 16 = .ok (.iconst 0, 1) := dc0 (j := 16) sX8_isDigit_0 rfl op_3
theorem dX8_isDigit_17 : decode cX8_isDigit 17 = .ok (.ireturn, 1) := dc0 (j := 17) sX8_isDigit_0 rfl op_172
theorem sX8_keyAt_0 : sgm cX8_keyAt 0 [3, 60, 4, 61, 28, 18, 70, 182, 0, 72, 162, 0, 113, 3, 62, 18, 70, 28, 29, 96, 182, 0, 78, 16, 32, 159, 0, 44, 42, 180, 0, 82, 29, 96, 42] := by decide +kernel
theorem dX8_keyAt_0 : decode cX8_keyAt 0 = .ok (.iconst 0, 1) := dc0 (j := 0) sX8_keyAt_0 rfl op_3
theorem dX8_keyAt_1 : decode cX8_keyAt 1 = .ok (.istore_n 1, 1) := dc0 (j := 1) sX8_keyAt_0 rfl op_60
theorem dX8_keyAt_2 : decode cX8_keyAt 2 = .ok (.iconst 1, 1) := dc0 (j := 2) sX8_keyAt_0 rfl op_4
theorem dX8_keyAt_3 : decode cX8_keyAt 3 = .ok (.istore_n 2, 1) := dc0 (j := 3) sX8_keyAt_0 rfl op_61
theorem dX8_keyAt_4 : decode cX8_keyAt 4 = .ok (.iload_n 2, 1) := dc0 (j := 4) sX8_keyAt_0 rfl op_28
theorem dX8_keyAt_5 : decode cX8_keyAt 5 = .ok (.ldc 70, 2) := dcA (j := 5) (f := Instr.ldc) sX8_keyAt_0 rfl op_18
theorem dX8_keyAt_7 : decode cX8_keyAt 7 = .ok (.invokevirtual 72, 3) := dcB (j := 7) (f := Instr.invokevirtual) sX8_keyAt_0 rfl op_182 rfl
theorem dX8_keyAt_10 : decode cX8_keyAt 10 = .ok (.if_icmp .ge 113, 3) := dcTp (j := 10) (v := 113) (f := Instr.if_icmp .ge) sX8_keyAt_0 rfl op_162 rfl rfl
theorem dX8_keyAt_13 : decode cX8_keyAt 13 = .ok (.iconst 0, 1) := dc0 (j := 13) sX8_keyAt_0 rfl op_3
theorem dX8_keyAt_14 : decode cX8_keyAt 14 = .ok (.istore_n 3, 1) := dc0 (j := 14) sX8_keyAt_0 rfl op_62
theorem dX8_keyAt_15 : decode cX8_keyAt 15 = .ok (.ldc 70, 2) := dcA (j := 15) (f := Instr.ldc) sX8_keyAt_0 rfl op_18
theorem dX8_keyAt_17 : decode cX8_keyAt 17 = .ok (.iload_n 2, 1) := dc0 (j := 17) sX8_keyAt_0 rfl op_28
theorem dX8_keyAt_18 : decode cX8_keyAt 18 = .ok (.iload_n 3, 1) := dc0 (j := 18) sX8_keyAt_0 rfl op_29
theorem dX8_keyAt_19 : decode cX8_keyAt 19 = .ok (.iadd, 1) := dc0 (j := 19) sX8_keyAt_0 rfl op_96
theorem dX8_keyAt_20 : decode cX8_keyAt 20 = .ok (.invokevirtual 78, 3) := dcB (j := 20) (f := Instr.invokevirtual) sX8_keyAt_0 rfl op_182 rfl
theorem dX8_keyAt_23 : decode cX8_keyAt 23 = .ok (.bipush 32, 2) := dcSp (j := 23) (a := 32) (f := Instr.bipush) sX8_keyAt_0 rfl op_16 rfl
theorem dX8_keyAt_25 : decode cX8_keyAt 25 = .ok (.if_icmp .eq 44, 3) := dcTp (j := 25) (v := 44) (f := Instr.if_icmp .eq) sX8_keyAt_0 rfl op_159 rfl rfl
theorem dX8_keyAt_28 : decode cX8_keyAt 28 = .ok (.aload_n 0, 1) := dc0 (j := 28) sX8_keyAt_0 rfl op_42
theorem dX8_keyAt_29 : decode cX8_keyAt 29 = .ok (.getfield 82, 3) := dcB (j := 29) (f := Instr.getfield) sX8_keyAt_0 rfl op_180 rfl
theorem dX8_keyAt_32 : decode cX8_keyAt 32 = .ok (.iload_n 3, 1) := dc0 (j := 32) sX8_keyAt_0 rfl op_29
theorem dX8_keyAt_33 : decode cX8_keyAt 33 = .ok (.iadd, 1) := dc0 (j := 33) sX8_keyAt_0 rfl op_96
theorem dX8_keyAt_34 : decode cX8_keyAt 34 = .ok (.aload_n 0, 1) := dc0 (j := 34) sX8_keyAt_0 rfl op_42
theorem sX8_keyAt_35 : sgm cX8_keyAt 35 [180, 0, 85, 162, 0, 31, 42, 180, 0, 21, 42, 180, 0, 82, 29, 96, 46, 18, 70, 28, 29, 96, 182, 0, 78, 160, 0, 9, 132, 3, 1, 167, 255, 205, 18, 70] := by decide +kernel
theorem dX8_keyAt_35 : decode cX8_keyAt 35 = .ok (.getfield 85, 3) := dcB (j := 0) (f := Instr.getfield) sX8_keyAt_35 rfl op_180 rfl
theorem dX8_keyAt_38 : decode cX8_keyAt 38 = .ok (.if_icmp .ge 31, 3) := dcTp (j := 3) (v := 31) (f := Instr.if_icmp .ge) sX8_keyAt_35 rfl op_162 rfl rfl
theorem dX8_keyAt_41 : decode cX8_keyAt 41 = .ok (.aload_n 0, 1) := dc0 (j := 6) sX8_keyAt_35 rfl op_42
theorem dX8_keyAt_42 : decode cX8_keyAt 42 = .ok (.getfield 21, 3) := dcB (j := 7) (f := Instr.getfield) sX8_keyAt_35 rfl op_180 rfl
theorem dX8_keyAt_45 : decode cX8_keyAt 45 = .ok (.aload_n 0, 1) := dc0 (j := 10) sX8_keyAt_35 rfl op_42
theorem dX8_keyAt_46 : decode cX8_keyAt 46 = .ok (.getfield 82, 3) := dcB (j := 11) (f := Instr.getfield) sX8_keyAt_35 rfl op_180 rfl
theorem dX8_keyAt_49 : decode cX8_keyAt 49 = .ok (.iload_n 3, 1) := dc0 (j := 14) sX8_keyAt_35 rfl op_29
theorem dX8_keyAt_50 : decode cX8_keyAt 50 = .ok (.iadd, 1) := dc0 (j := 15) sX8_keyAt_35 rfl op_96
theorem dX8_keyAt_51 : decode cX8_keyAt 51 = .ok (.iaload, 1) := dc0 (j := 16) sX8_keyAt_35 rfl op_46
theorem dX8_keyAt_52 : decode cX8_keyAt 52 = .ok (.ldc 70, 2) := dcA (j := 17) (f := Instr.ldc) sX8_keyAt_35 rfl op_18
theorem dX8_keyAt_54 : decode cX8_keyAt 54 = .ok (.iload_n 2, 1) := dc0 (j := 19) sX8_keyAt_35 rfl op_28
theorem dX8_keyAt_55 : decode cX8_keyAt 55 = .ok (.iload_n 3, 1) := dc0 (j := 20) sX8_keyAt_35 rfl op_29
theorem dX8_keyAt_56 : decode cX8_keyAt 56 = .ok (.iadd, 1) := dc0 (j := 21) sX8_keyAt_35 rfl op_96
theorem dX8_keyAt_57 : decode cX8_keyAt 57 = .ok (.invokevirtual 78, 3) := dcB (j := 22) (f := Instr.invokevirtual) sX8_keyAt_35 rfl op_182 rfl
theorem dX8_keyAt_60 : decode cX8_keyAt 60 = .ok (.if_icmp .ne 9, 3) := dcTp (j := 25) (v := 9) (f := Instr.if_icmp .ne) sX8_keyAt_35 rfl op_160 rfl rfl
theorem dX8_keyAt_63 : decode cX8_keyAt 63 = .ok (.iinc 3 1, 3) := dcIp (j := 28) sX8_keyAt_35 rfl op_132 rfl
theorem dX8_keyAt_66 : decode cX8_keyAt 66 = .ok (.goto (-51), 3) := dcTn (j := 31) (v := 51) (f := Instr.goto) sX8_keyAt_35 rfl op_167 rfl rfl rfl
theorem dX8_keyAt_69 : decode cX8_keyAt 69 = .ok (.ldc 70, 2) := dcA (j := 34) (f := Instr.ldc) sX8_keyAt_35 rfl op_18
theorem sX8_keyAt_71 : sgm cX8_keyAt 71 [28, 29, 96, 182, 0, 78, 16, 32, 160, 0, 18, 42, 180, 0, 82, 29, 96, 42, 180, 0, 85, 160, 0, 5, 27, 172, 18, 70, 28, 182, 0, 78, 16, 32] := by decide +kernel
theorem dX8_keyAt_71 : decode cX8_keyAt 71 = .ok (.iload_n 2, 1) := dc0 (j := 0) sX8_keyAt_71 rfl op_28
theorem dX8_keyAt_72 : decode cX8_keyAt 72 = .ok (.iload_n 3, 1) := dc0 (j := 1) sX8_keyAt_71 rfl op_29
theorem dX8_keyAt_73 : decode cX8_keyAt 73 = .ok (.iadd, 1) := dc0 (j := 2) sX8_keyAt_71 rfl op_96
theorem dX8_keyAt_74 : decode cX8_keyAt 74 = .ok (.invokevirtual 78, 3) := dcB (j := 3) (f := Instr.invokevirtual) sX8_keyAt_71 rfl op_182 rfl
theorem dX8_keyAt_77 : decode cX8_keyAt 77 = .ok (.bipush 32, 2) := dcSp (j := 6) (a := 32) (f := Instr.bipush) sX8_keyAt_71 rfl op_16 rfl
theorem dX8_keyAt_79 : decode cX8_keyAt 79 = .ok (.if_icmp .ne 18, 3) := dcTp (j := 8) (v := 18) (f := Instr.if_icmp .ne) sX8_keyAt_71 rfl op_160 rfl rfl
theorem dX8_keyAt_82 : decode cX8_keyAt 82 = .ok (.aload_n 0, 1) := dc0 (j := 11) sX8_keyAt_71 rfl op_42
theorem dX8_keyAt_83 : decode cX8_keyAt 83 = .ok (.getfield 82, 3) := dcB (j := 12) (f := Instr.getfield) sX8_keyAt_71 rfl op_180 rfl
theorem dX8_keyAt_86 : decode cX8_keyAt 86 = .ok (.iload_n 3, 1) := dc0 (j := 15) sX8_keyAt_71 rfl op_29
theorem dX8_keyAt_87 : decode cX8_keyAt 87 = .ok (.iadd, 1) := dc0 (j := 16) sX8_keyAt_71 rfl op_96
theorem dX8_keyAt_88 : decode cX8_keyAt 88 = .ok (.aload_n 0, 1) := dc0 (j := 17) sX8_keyAt_71 rfl op_42
theorem dX8_keyAt_89 : decode cX8_keyAt 89 = .ok (.getfield 85, 3) := dcB (j := 18) (f := Instr.getfield) sX8_keyAt_71 rfl op_180 rfl
theorem dX8_keyAt_92 : decode cX8_keyAt 92 = .ok (.if_icmp .ne 5, 3) := dcTp (j := 21) (v := 5) (f := Instr.if_icmp .ne) sX8_keyAt_71 rfl op_160 rfl rfl
theorem dX8_keyAt_95 : decode cX8_keyAt 95 = .ok (.iload_n 1, 1) := dc0 (j := 24) sX8_keyAt_71 rfl op_27
theorem dX8_keyAt_96 : decode cX8_keyAt 96 = .ok (.ireturn, 1) := dc0 (j := 25) sX8_keyAt_71 rfl op_172
theorem dX8_keyAt_97 : decode cX8_keyAt 97 = .ok (.ldc 70, 2) := dcA (j := 26) (f := Instr.ldc) sX8_keyAt_71 rfl op_18
theorem dX8_keyAt_99 : decode cX8_keyAt 99 = .ok (.iload_n 2, 1) := dc0 (j := 28) sX8_keyAt_71 rfl op_28
theorem dX8_keyAt_100 : decode cX8_keyAt 100 = .ok (.invokevirtual 78, 3) := dcB (j := 29) (f := Instr.invokevirtual) sX8_keyAt_71 rfl op_182 rfl
theorem dX8_keyAt_103 : decode cX8_keyAt 103 = .ok (.bipush 32, 2) := dcSp (j := 32) (a := 32) (f := Instr.bipush) sX8_keyAt_71 rfl op_16 rfl
theorem sX8_keyAt_105 : sgm cX8_keyAt 105 [159, 0, 9, 132, 2, 1, 167, 255, 242, 132, 2, 1, 132, 1, 1, 167, 255, 140, 16, 8, 172] := by decide +kernel
theorem dX8_keyAt_105 : decode cX8_keyAt 105 = .ok (.if_icmp .eq 9, 3) := dcTp (j := 0) (v := 9) (f := Instr.if_icmp .eq) sX8_keyAt_105 rfl op_159 rfl rfl
theorem dX8_keyAt_108 : decode cX8_keyAt 108 = .ok (.iinc 2 1, 3) := dcIp (j := 3) sX8_keyAt_105 rfl op_132 rfl
theorem dX8_keyAt_111 : decode cX8_keyAt 111 = .ok (.goto (-14), 3) := dcTn (j := 6) (v := 14) (f := Instr.goto) sX8_keyAt_105 rfl op_167 rfl rfl rfl
theorem dX8_keyAt_114 : decode cX8_keyAt 114 = .ok (.iinc 2 1, 3) := dcIp (j := 9) sX8_keyAt_105 rfl op_132 rfl
theorem dX8_keyAt_117 : decode cX8_keyAt 117 = .ok (.iinc 1 1, 3) := dcIp (j := 12) sX8_keyAt_105 rfl op_132 rfl
theorem dX8_keyAt_120 : decode cX8_keyAt 120 = .ok (.goto (-116), 3) := dcTn (j := 15) (v := 116) (f := Instr.goto) sX8_keyAt_105 rfl op_167 rfl rfl rfl
theorem dX8_keyAt_123 : decode cX8_keyAt 123 = .ok (.bipush 8, 2) := dcSp (j := 18) (a := 8) (f := Instr.bipush) sX8_keyAt_105 rfl op_16 rfl
theorem dX8_keyAt_125 : decode cX8_keyAt 125 = .ok (.ireturn, 1) := dc0 (j := 20) sX8_keyAt_105 rfl op_172
theorem sX8_next_0 : sgm cX8_next 0 [42, 42, 180, 0, 85, 181, 0, 82, 42, 42, 180, 0, 82, 182, 0, 88, 16, 10, 159, 0, 16, 42, 42, 180, 0, 82, 182, 0, 88, 16, 32, 160, 0, 16, 42, 89] := by decide +kernel
theorem dX8_next_0 : decode cX8_next 0 = .ok (.aload_n 0, 1) := dc0 (j := 0) sX8_next_0 rfl op_42
theorem dX8_next_1 : decode cX8_next 1 = .ok (.aload_n 0, 1) := dc0 (j := 1) sX8_next_0 rfl op_42
theorem dX8_next_2 : decode cX8_next 2 = .ok (.getfield 85, 3) := dcB (j := 2) (f := Instr.getfield) sX8_next_0 rfl op_180 rfl
theorem dX8_next_5 : decode cX8_next 5 = .ok (.putfield 82, 3) := dcB (j := 5) (f := Instr.putfield) sX8_next_0 rfl op_181 rfl
theorem dX8_next_8 : decode cX8_next 8 = .ok (.aload_n 0, 1) := dc0 (j := 8) sX8_next_0 rfl op_42
theorem dX8_next_9 : decode cX8_next 9 = .ok (.aload_n 0, 1) := dc0 (j := 9) sX8_next_0 rfl op_42
theorem dX8_next_10 : decode cX8_next 10 = .ok (.getfield 82, 3) := dcB (j := 10) (f := Instr.getfield) sX8_next_0 rfl op_180 rfl
theorem dX8_next_13 : decode cX8_next 13 = .ok (.invokevirtual 88, 3) := dcB (j := 13) (f := Instr.invokevirtual) sX8_next_0 rfl op_182 rfl
theorem dX8_next_16 : decode cX8_next 16 = .ok (.bipush 10, 2) := dcSp (j := 16) (a := 10) (f := Instr.bipush) sX8_next_0 rfl op_16 rfl
theorem dX8_next_18 : decode cX8_next 18 = .ok (.if_icmp .eq 16, 3) := dcTp (j := 18) (v := 16) (f := Instr.if_icmp .eq) sX8_next_0 rfl op_159 rfl rfl
theorem dX8_next_21 : decode cX8_next 21 = .ok (.aload_n 0, 1) := dc0 (j := 21) sX8_next_0 rfl op_42
theorem dX8_next_22 : decode cX8_next 22 = .ok (.aload_n 0, 1) := dc0 (j := 22) sX8_next_0 rfl op_42
theorem dX8_next_23 : decode cX8_next 23 = .ok (.getfield 82, 3) := dcB (j := 23) (f := Instr.getfield) sX8_next_0 rfl op_180 rfl
theorem dX8_next_26 : decode cX8_next 26 = .ok (.invokevirtual 88, 3) := dcB (j := 26) (f := Instr.invokevirtual) sX8_next_0 rfl op_182 rfl
theorem dX8_next_29 : decode cX8_next 29 = .ok (.bipush 32, 2) := dcSp (j := 29) (a := 32) (f := Instr.bipush) sX8_next_0 rfl op_16 rfl
theorem dX8_next_31 : decode cX8_next 31 = .ok (.if_icmp .ne 16, 3) := dcTp (j := 31) (v := 16) (f := Instr.if_icmp .ne) sX8_next_0 rfl op_160 rfl rfl
theorem dX8_next_34 : decode cX8_next 34 = .ok (.aload_n 0, 1) := dc0 (j := 34) sX8_next_0 rfl op_42
theorem dX8_next_35 : decode cX8_next 35 = .ok (.dup, 1) := dc0 (j := 35) sX8_next_0 rfl op_89
theorem sX8_next_36 : sgm cX8_next 36 [180, 0, 82, 4, 96, 181, 0, 82, 167, 255, 220, 42, 42, 180, 0, 82, 181, 0, 85, 42, 180, 0, 82, 42, 180, 0, 67, 161, 0, 12, 42, 16, 11, 181, 0, 92] := by decide +kernel
theorem dX8_next_36 : decode cX8_next 36 = .ok (.getfield 82, 3) := dcB (j := 0) (f := Instr.getfield) sX8_next_36 rfl op_180 rfl
theorem dX8_next_39 : decode cX8_next 39 = .ok (.iconst 1, 1) := dc0 (j := 3) sX8_next_36 rfl op_4
theorem dX8_next_40 : decode cX8_next 40 = .ok (.iadd, 1) := dc0 (j := 4) sX8_next_36 rfl op_96
theorem dX8_next_41 : decode cX8_next 41 = .ok (.putfield 82, 3) := dcB (j := 5) (f := Instr.putfield) sX8_next_36 rfl op_181 rfl
theorem dX8_next_44 : decode cX8_next 44 = .ok (.goto (-36), 3) := dcTn (j := 8) (v := 36) (f := Instr.goto) sX8_next_36 rfl op_167 rfl rfl rfl
theorem dX8_next_47 : decode cX8_next 47 = .ok (.aload_n 0, 1) := dc0 (j := 11) sX8_next_36 rfl op_42
theorem dX8_next_48 : decode cX8_next 48 = .ok (.aload_n 0, 1) := dc0 (j := 12) sX8_next_36 rfl op_42
theorem dX8_next_49 : decode cX8_next 49 = .ok (.getfield 82, 3) := dcB (j := 13) (f := Instr.getfield) sX8_next_36 rfl op_180 rfl
theorem dX8_next_52 : decode cX8_next 52 = .ok (.putfield 85, 3) := dcB (j := 16) (f := Instr.putfield) sX8_next_36 rfl op_181 rfl
theorem dX8_next_55 : decode cX8_next 55 = .ok (.aload_n 0, 1) := dc0 (j := 19) sX8_next_36 rfl op_42
theorem dX8_next_56 : decode cX8_next 56 = .ok (.getfield 82, 3) := dcB (j := 20) (f := Instr.getfield) sX8_next_36 rfl op_180 rfl
theorem dX8_next_59 : decode cX8_next 59 = .ok (.aload_n 0, 1) := dc0 (j := 23) sX8_next_36 rfl op_42
theorem dX8_next_60 : decode cX8_next 60 = .ok (.getfield 67, 3) := dcB (j := 24) (f := Instr.getfield) sX8_next_36 rfl op_180 rfl
theorem dX8_next_63 : decode cX8_next 63 = .ok (.if_icmp .lt 12, 3) := dcTp (j := 27) (v := 12) (f := Instr.if_icmp .lt) sX8_next_36 rfl op_161 rfl rfl
theorem dX8_next_66 : decode cX8_next 66 = .ok (.aload_n 0, 1) := dc0 (j := 30) sX8_next_36 rfl op_42
theorem dX8_next_67 : decode cX8_next 67 = .ok (.bipush 11, 2) := dcSp (j := 31) (a := 11) (f := Instr.bipush) sX8_next_36 rfl op_16 rfl
theorem dX8_next_69 : decode cX8_next 69 = .ok (.putfield 92, 3) := dcB (j := 33) (f := Instr.putfield) sX8_next_36 rfl op_181 rfl
theorem sX8_next_72 : sgm cX8_next 72 [167, 0, 198, 42, 42, 180, 0, 82, 182, 0, 88, 184, 0, 95, 153, 0, 41, 42, 42, 180, 0, 85, 182, 0, 88, 184, 0, 95, 153, 0, 16, 42, 89, 180, 0, 85] := by decide +kernel
theorem dX8_next_72 : decode cX8_next 72 = .ok (.goto 198, 3) := dcTp (j := 0) (v := 198) (f := Instr.goto) sX8_next_72 rfl op_167 rfl rfl
theorem dX8_next_75 : decode cX8_next 75 = .ok (.aload_n 0, 1) := dc0 (j := 3) sX8_next_72 rfl op_42
theorem dX8_next_76 : decode cX8_next 76 = .ok (.aload_n 0, 1) := dc0 (j := 4) sX8_next_72 rfl op_42
theorem dX8_next_77 : decode cX8_next 77 = .ok (.getfield 82, 3) := dcB (j := 5) (f := Instr.getfield) sX8_next_72 rfl op_180 rfl
theorem dX8_next_80 : decode cX8_next 80 = .ok (.invokevirtual 88, 3) := dcB (j := 8) (f := Instr.invokevirtual) sX8_next_72 rfl op_182 rfl
theorem dX8_next_83 : decode cX8_next 83 = .ok (.invokestatic 95, 3) := dcB (j := 11) (f := Instr.invokestatic) sX8_next_72 rfl op_184 rfl
theorem dX8_next_86 : decode cX8_next 86 = .ok (.ifCond .eq 41, 3) := dcTp (j := 14) (v := 41) (f := Instr.ifCond .eq) sX8_next_72 rfl op_153 rfl rfl
theorem dX8_next_89 : decode cX8_next 89 = .ok (.aload_n 0, 1) := dc0 (j := 17) sX8_next_72 rfl op_42
theorem dX8_next_90 : decode cX8_next 90 = .ok (.aload_n 0, 1) := dc0 (j := 18) sX8_next_72 rfl op_42
theorem dX8_next_91 : decode cX8_next 91 = .ok (.getfield 85, 3) := dcB (j := 19) (f := Instr.getfield) sX8_next_72 rfl op_180 rfl
theorem dX8_next_94 : decode cX8_next 94 = .ok (.invokevirtual 88, 3) := dcB (j := 22) (f := Instr.invokevirtual) sX8_next_72 rfl op_182 rfl
theorem dX8_next_97 : decode cX8_next 97 = .ok (.invokestatic 95, 3) := dcB (j := 25) (f := Instr.invokestatic) sX8_next_72 rfl op_184 rfl
theorem dX8_next_100 : decode cX8_next 100 = .ok (.ifCond .eq 16, 3) := dcTp (j := 28) (v := 16) (f := Instr.ifCond .eq) sX8_next_72 rfl op_153 rfl rfl
theorem dX8_next_103 : decode cX8_next 103 = .ok (.aload_n 0, 1) := dc0 (j := 31) sX8_next_72 rfl op_42
theorem dX8_next_104 : decode cX8_next 104 = .ok (.dup, 1) := dc0 (j := 32) sX8_next_72 rfl op_89
theorem dX8_next_105 : decode cX8_next 105 = .ok (.getfield 85, 3) := dcB (j := 33) (f := Instr.getfield) sX8_next_72 rfl op_180 rfl
theorem sX8_next_108 : sgm cX8_next 108 [4, 96, 181, 0, 85, 167, 255, 232, 42, 42, 182, 0, 99, 181, 0, 92, 167, 0, 146, 42, 42, 180, 0, 82, 182, 0, 88, 184, 0, 102, 153, 0, 98, 42, 3] := by decide +kernel
theorem dX8_next_108 : decode cX8_next 108 = .ok (.iconst 1, 1) := dc0 (j := 0) sX8_next_108 rfl op_4
theorem dX8_next_109 : decode cX8_next 109 = .ok (.iadd, 1) := dc0 (j := 1) sX8_next_108 rfl op_96
theorem dX8_next_110 : decode cX8_next 110 = .ok (.putfield 85, 3) := dcB (j := 2) (f := Instr.putfield) sX8_next_108 rfl op_181 rfl
theorem dX8_next_113 : decode cX8_next 113 = .ok (.goto (-24), 3) := dcTn (j := 5) (v := 24) (f := Instr.goto) sX8_next_108 rfl op_167 rfl rfl rfl
theorem dX8_next_116 : decode cX8_next 116 = .ok (.aload_n 0, 1) := dc0 (j := 8) sX8_next_108 rfl op_42
theorem dX8_next_117 : decode cX8_next 117 = .ok (.aload_n 0, 1) := dc0 (j := 9) sX8_next_108 rfl op_42
theorem dX8_next_118 : decode cX8_next 118 = .ok (.invokevirtual 99, 3) := dcB (j := 10) (f := Instr.invokevirtual) sX8_next_108 rfl op_182 rfl
theorem dX8_next_121 : decode cX8_next 121 = .ok (.putfield 92, 3) := dcB (j := 13) (f := Instr.putfield) sX8_next_108 rfl op_181 rfl
theorem dX8_next_124 : decode cX8_next 124 = .ok (.goto 146, 3) := dcTp (j := 16) (v := 146) (f := Instr.goto) sX8_next_108 rfl op_167 rfl rfl
theorem dX8_next_127 : decode cX8_next 127 = .ok (.aload_n 0, 1) := dc0 (j := 19) sX8_next_108 rfl op_42
theorem dX8_next_128 : decode cX8_next 128 = .ok (.aload_n 0, 1) := dc0 (j := 20) sX8_next_108 rfl op_42
theorem dX8_next_129 : decode cX8_next 129 = .ok (.getfield 82, 3) := dcB (j := 21) (f := Instr.getfield) sX8_next_108 rfl op_180 rfl
theorem dX8_next_132 : decode cX8_next 132 = .ok (.invokevirtual 88, 3) := dcB (j := 24) (f := Instr.invokevirtual) sX8_next_108 rfl op_182 rfl
theorem dX8_next_135 : decode cX8_next 135 = .ok (.invokestatic 102, 3) := dcB (j := 27) (f := Instr.invokestatic) sX8_next_108 rfl op_184 rfl
theorem dX8_next_138 : decode cX8_next 138 = .ok (.ifCond .eq 98, 3) := dcTp (j := 30) (v := 98) (f := Instr.ifCond .eq) sX8_next_108 rfl op_153 rfl rfl
theorem dX8_next_141 : decode cX8_next 141 = .ok (.aload_n 0, 1) := dc0 (j := 33) sX8_next_108 rfl op_42
theorem dX8_next_142 : decode cX8_next 142 = .ok (.iconst 0, 1) := dc0 (j := 34) sX8_next_108 rfl op_3
theorem sX8_next_143 : sgm cX8_next 143 [181, 0, 105, 42, 42, 180, 0, 85, 182, 0, 88, 184, 0, 102, 153, 0, 52, 42, 180, 0, 85, 42, 180, 0, 82, 100, 6, 162, 0, 26, 42, 16, 10, 42] := by decide +kernel
theorem dX8_next_143 : decode cX8_next 143 = .ok (.putfield 105, 3) := dcB (j := 0) (f := Instr.putfield) sX8_next_143 rfl op_181 rfl
theorem dX8_next_146 : decode cX8_next 146 = .ok (.aload_n 0, 1) := dc0 (j := 3) sX8_next_143 rfl op_42
theorem dX8_next_147 : decode cX8_next 147 = .ok (.aload_n 0, 1) := dc0 (j := 4) sX8_next_143 rfl op_42
theorem dX8_next_148 : decode cX8_next 148 = .ok (.getfield 85, 3) := dcB (j := 5) (f := Instr.getfield) sX8_next_143 rfl op_180 rfl
theorem dX8_next_151 : decode cX8_next 151 = .ok (.invokevirtual 88, 3) := dcB (j := 8) (f := Instr.invokevirtual) sX8_next_143 rfl op_182 rfl
theorem dX8_next_154 : decode cX8_next 154 = .ok (.invokestatic 102, 3) := dcB (j := 11) (f := Instr.invokestatic) sX8_next_143 rfl op_184 rfl
theorem dX8_next_157 : decode cX8_next 157 = .ok (.ifCond .eq 52, 3) := dcTp (j := 14) (v := 52) (f := Instr.ifCond .eq) sX8_next_143 rfl op_153 rfl rfl
theorem dX8_next_160 : decode cX8_next 160 = .ok (.aload_n 0, 1) := dc0 (j := 17) sX8_next_143 rfl op_42
theorem dX8_next_161 : decode cX8_next 161 = .ok (.getfield 85, 3) := dcB (j := 18) (f := Instr.getfield) sX8_next_143 rfl op_180 rfl
theorem dX8_next_164 : decode cX8_next 164 = .ok (.aload_n 0, 1) := dc0 (j := 21) sX8_next_143 rfl op_42
theorem dX8_next_165 : decode cX8_next 165 = .ok (.getfield 82, 3) := dcB (j := 22) (f := Instr.getfield) sX8_next_143 rfl op_180 rfl
theorem dX8_next_168 : decode cX8_next 168 = .ok (.isub, 1) := dc0 (j := 25) sX8_next_143 rfl op_100
theorem dX8_next_169 : decode cX8_next 169 = .ok (.iconst 3, 1) := dc0 (j := 26) sX8_next_143 rfl op_6
theorem dX8_next_170 : decode cX8_next 170 = .ok (.if_icmp .ge 26, 3) := dcTp (j := 27) (v := 26) (f := Instr.if_icmp .ge) sX8_next_143 rfl op_162 rfl rfl
theorem dX8_next_173 : decode cX8_next 173 = .ok (.aload_n 0, 1) := dc0 (j := 30) sX8_next_143 rfl op_42
theorem dX8_next_174 : decode cX8_next 174 = .ok (.bipush 10, 2) := dcSp (j := 31) (a := 10) (f := Instr.bipush) sX8_next_143 rfl op_16 rfl
theorem dX8_next_176 : decode cX8_next 176 = .ok (.aload_n 0, 1) := dc0 (j := 33) sX8_next_143 rfl op_42
theorem sX8_next_177 : sgm cX8_next 177 [180, 0, 105, 104, 42, 42, 180, 0, 85, 182, 0, 88, 96, 16, 48, 100, 181, 0, 105, 42, 89, 180, 0, 85, 4, 96, 181, 0, 85, 167, 255, 196, 42, 42] := by decide +kernel
theorem dX8_next_177 : decode cX8_next 177 = .ok (.getfield 105, 3) := dcB (j := 0) (f := Instr.getfield) sX8_next_177 rfl op_180 rfl
theorem dX8_next_180 : decode cX8_next 180 = .ok (.imul, 1) := dc0 (j := 3) sX8_next_177 rfl op_104
theorem dX8_next_181 : decode cX8_next 181 = .ok (.aload_n 0, 1) := dc0 (j := 4) sX8_next_177 rfl op_42
theorem dX8_next_182 : decode cX8_next 182 = .ok (.aload_n 0, 1) := dc0 (j := 5) sX8_next_177 rfl op_42
theorem dX8_next_183 : decode cX8_next 183 = .ok (.getfield 85, 3) := dcB (j := 6) (f := Instr.getfield) sX8_next_177 rfl op_180 rfl
theorem dX8_next_186 : decode cX8_next 186 = .ok (.invokevirtual 88, 3) := dcB (j := 9) (f := Instr.invokevirtual) sX8_next_177 rfl op_182 rfl
theorem dX8_next_189 : decode cX8_next 189 = .ok (.iadd, 1) := dc0 (j := 12) sX8_next_177 rfl op_96
theorem dX8_next_190 : decode cX8_next 190 = .ok (.bipush 48, 2) := dcSp (j := 13) (a := 48) (f := Instr.bipush) sX8_next_177 rfl op_16 rfl
theorem dX8_next_192 : decode cX8_next 192 = .ok (.isub, 1) := dc0 (j := 15) sX8_next_177 rfl op_100
theorem dX8_next_193 : decode cX8_next 193 = .ok (.putfield 105, 3) := dcB (j := 16) (f := Instr.putfield) sX8_next_177 rfl op_181 rfl
theorem dX8_next_196 : decode cX8_next 196 = .ok (.aload_n 0, 1) := dc0 (j := 19) sX8_next_177 rfl op_42
theorem dX8_next_197 : decode cX8_next 197 = .ok (.dup, 1) := dc0 (j := 20) sX8_next_177 rfl op_89
theorem dX8_next_198 : decode cX8_next 198 = .ok (.getfield 85, 3) := dcB (j := 21) (f := Instr.getfield) sX8_next_177 rfl op_180 rfl
theorem dX8_next_201 : decode cX8_next 201 = .ok (.iconst 1, 1) := dc0 (j := 24) sX8_next_177 rfl op_4
theorem dX8_next_202 : decode cX8_next 202 = .ok (.iadd, 1) := dc0 (j := 25) sX8_next_177 rfl op_96
theorem dX8_next_203 : decode cX8_next 203 = .ok (.putfield 85, 3) := dcB (j := 26) (f := Instr.putfield) sX8_next_177 rfl op_181 rfl
theorem dX8_next_206 : decode cX8_next 206 = .ok (.goto (-60), 3) := dcTn (j := 29) (v := 60) (f := Instr.goto) sX8_next_177 rfl op_167 rfl rfl rfl
theorem dX8_next_209 : decode cX8_next 209 = .ok (.aload_n 0, 1) := dc0 (j := 32) sX8_next_177 rfl op_42
theorem dX8_next_210 : decode cX8_next 210 = .ok (.aload_n 0, 1) := dc0 (j := 33) sX8_next_177 rfl op_42
theorem sX8_next_211 : sgm cX8_next 211 [180, 0, 85, 42, 180, 0, 82, 100, 6, 164, 0, 8, 16, 12, 167, 0, 5, 16, 9, 181, 0, 92, 167, 0, 37, 42, 89, 180, 0, 85, 4, 96, 181, 0, 85, 42] := by decide +kernel
theorem dX8_next_211 : decode cX8_next 211 = .ok (.getfield 85, 3) := dcB (j := 0) (f := Instr.getfield) sX8_next_211 rfl op_180 rfl
theorem dX8_next_214 : decode cX8_next 214 = .ok (.aload_n 0, 1) := dc0 (j := 3) sX8_next_211 rfl op_42
theorem dX8_next_215 : decode cX8_next 215 = .ok (.getfield 82, 3) := dcB (j := 4) (f := Instr.getfield) sX8_next_211 rfl op_180 rfl
theorem dX8_next_218 : decode cX8_next 218 = .ok (.isub, 1) := dc0 (j := 7) sX8_next_211 rfl op_100
theorem dX8_next_219 : decode cX8_next 219 = .ok (.iconst 3, 1) := dc0 (j := 8) sX8_next_211 rfl op_6
theorem dX8_next_220 : decode cX8_next 220 = .ok (.if_icmp .le 8, 3) := dcTp (j := 9) (v := 8) (f := Instr.if_icmp .le) sX8_next_211 rfl op_164 rfl rfl
theorem dX8_next_223 : decode cX8_next 223 = .ok (.bipush 12, 2) := dcSp (j := 12) (a := 12) (f := Instr.bipush) sX8_next_211 rfl op_16 rfl
theorem dX8_next_225 : decode cX8_next 225 = .ok (.goto 5, 3) := dcTp (j := 14) (v := 5) (f := Instr.goto) sX8_next_211 rfl op_167 rfl rfl
theorem dX8_next_228 : decode cX8_next 228 = .ok (.bipush 9, 2) := dcSp (j := 17) (a := 9) (f := Instr.bipush) sX8_next_211 rfl op_16 rfl
theorem dX8_next_230 : decode cX8_next 230 = .ok (.putfield 92, 3) := dcB (j := 19) (f := Instr.putfield) sX8_next_211 rfl op_181 rfl
theorem dX8_next_233 : decode cX8_next 233 = .ok (.goto 37, 3) := dcTp (j := 22) (v := 37) (f := Instr.goto) sX8_next_211 rfl op_167 rfl rfl
theorem dX8_next_236 : decode cX8_next 236 = .ok (.aload_n 0, 1) := dc0 (j := 25) sX8_next_211 rfl op_42
theorem dX8_next_237 : decode cX8_next 237 = .ok (.dup, 1) := dc0 (j := 26) sX8_next_211 rfl op_89
theorem dX8_next_238 : decode cX8_next 238 = .ok (.getfield 85, 3) := dcB (j := 27) (f := Instr.getfield) sX8_next_211 rfl op_180 rfl
theorem dX8_next_241 : decode cX8_next 241 = .ok (.iconst 1, 1) := dc0 (j := 30) sX8_next_211 rfl op_4
theorem dX8_next_242 : decode cX8_next 242 = .ok (.iadd, 1) := dc0 (j := 31) sX8_next_211 rfl op_96
theorem dX8_next_243 : decode cX8_next 243 = .ok (.putfield 85, 3) := dcB (j := 32) (f := Instr.putfield) sX8_next_211 rfl op_181 rfl
theorem dX8_next_246 : decode cX8_next 246 = .ok (.aload_n 0, 1) := dc0 (j := 35) sX8_next_211 rfl op_42
theorem sX8_next_247 : sgm cX8_next 247 [42, 42, 180, 0, 82, 182, 0, 88, 16, 59, 160, 0, 8, 16, 10, 167, 0, 5, 16, 12, 181, 0, 92, 177] := by decide +kernel
theorem dX8_next_247 : decode cX8_next 247 = .ok (.aload_n 0, 1) := dc0 (j := 0) sX8_next_247 rfl op_42
theorem dX8_next_248 : decode cX8_next 248 = .ok (.aload_n 0, 1) := dc0 (j := 1) sX8_next_247 rfl op_42
theorem dX8_next_249 : decode cX8_next 249 = .ok (.getfield 82, 3) := dcB (j := 2) (f := Instr.getfield) sX8_next_247 rfl op_180 rfl
theorem dX8_next_252 : decode cX8_next 252 = .ok (.invokevirtual 88, 3) := dcB (j := 5) (f := Instr.invokevirtual) sX8_next_247 rfl op_182 rfl
theorem dX8_next_255 : decode cX8_next 255 = .ok (.bipush 59, 2) := dcSp (j := 8) (a := 59) (f := Instr.bipush) sX8_next_247 rfl op_16 rfl
theorem dX8_next_257 : decode cX8_next 257 = .ok (.if_icmp .ne 8, 3) := dcTp (j := 10) (v := 8) (f := Instr.if_icmp .ne) sX8_next_247 rfl op_160 rfl rfl
theorem dX8_next_260 : decode cX8_next 260 = .ok (.bipush 10, 2) := dcSp (j := 13) (a := 10) (f := Instr.bipush) sX8_next_247 rfl op_16 rfl
theorem dX8_next_262 : decode cX8_next 262 = .ok (.goto 5, 3) := dcTp (j := 15) (v := 5) (f := Instr.goto) sX8_next_247 rfl op_167 rfl rfl
theorem dX8_next_265 : decode cX8_next 265 = .ok (.bipush 12, 2) := dcSp (j := 18) (a := 12) (f := Instr.bipush) sX8_next_247 rfl op_16 rfl
theorem dX8_next_267 : decode cX8_next 267 = .ok (.putfield 92, 3) := dcB (j := 20) (f := Instr.putfield) sX8_next_247 rfl op_181 rfl
theorem dX8_next_270 : decode cX8_next 270 = .ok (.return_, 1) := dc0 (j := 23) sX8_next_247 rfl op_177
theorem sX8_fails_0 : sgm cX8_fails 0 [42, 180, 0, 108, 153, 0, 4, 177, 42, 42, 180, 0, 92, 16, 12, 160, 0, 7, 4, 167, 0, 4, 27, 181, 0, 108, 42, 42, 180, 0, 82, 181, 0, 111, 177] := by decide +kernel
theorem dX8_fails_0 : decode cX8_fails 0 = .ok (.aload_n 0, 1) := dc0 (j := 0) sX8_fails_0 rfl op_42
theorem dX8_fails_1 : decode cX8_fails 1 = .ok (.getfield 108, 3) := dcB (j := 1) (f := Instr.getfield) sX8_fails_0 rfl op_180 rfl
theorem dX8_fails_4 : decode cX8_fails 4 = .ok (.ifCond .eq 4, 3) := dcTp (j := 4) (v := 4) (f := Instr.ifCond .eq) sX8_fails_0 rfl op_153 rfl rfl
theorem dX8_fails_7 : decode cX8_fails 7 = .ok (.return_, 1) := dc0 (j := 7) sX8_fails_0 rfl op_177
theorem dX8_fails_8 : decode cX8_fails 8 = .ok (.aload_n 0, 1) := dc0 (j := 8) sX8_fails_0 rfl op_42
theorem dX8_fails_9 : decode cX8_fails 9 = .ok (.aload_n 0, 1) := dc0 (j := 9) sX8_fails_0 rfl op_42
theorem dX8_fails_10 : decode cX8_fails 10 = .ok (.getfield 92, 3) := dcB (j := 10) (f := Instr.getfield) sX8_fails_0 rfl op_180 rfl
theorem dX8_fails_13 : decode cX8_fails 13 = .ok (.bipush 12, 2) := dcSp (j := 13) (a := 12) (f := Instr.bipush) sX8_fails_0 rfl op_16 rfl
theorem dX8_fails_15 : decode cX8_fails 15 = .ok (.if_icmp .ne 7, 3) := dcTp (j := 15) (v := 7) (f := Instr.if_icmp .ne) sX8_fails_0 rfl op_160 rfl rfl
theorem dX8_fails_18 : decode cX8_fails 18 = .ok (.iconst 1, 1) := dc0 (j := 18) sX8_fails_0 rfl op_4
theorem dX8_fails_19 : decode cX8_fails 19 = .ok (.goto 4, 3) := dcTp (j := 19) (v := 4) (f := Instr.goto) sX8_fails_0 rfl op_167 rfl rfl
theorem dX8_fails_22 : decode cX8_fails 22 = .ok (.iload_n 1, 1) := dc0 (j := 22) sX8_fails_0 rfl op_27
theorem dX8_fails_23 : decode cX8_fails 23 = .ok (.putfield 108, 3) := dcB (j := 23) (f := Instr.putfield) sX8_fails_0 rfl op_181 rfl
theorem dX8_fails_26 : decode cX8_fails 26 = .ok (.aload_n 0, 1) := dc0 (j := 26) sX8_fails_0 rfl op_42
theorem dX8_fails_27 : decode cX8_fails 27 = .ok (.aload_n 0, 1) := dc0 (j := 27) sX8_fails_0 rfl op_42
theorem dX8_fails_28 : decode cX8_fails 28 = .ok (.getfield 82, 3) := dcB (j := 28) (f := Instr.getfield) sX8_fails_0 rfl op_180 rfl
theorem dX8_fails_31 : decode cX8_fails 31 = .ok (.putfield 111, 3) := dcB (j := 31) (f := Instr.putfield) sX8_fails_0 rfl op_181 rfl
theorem dX8_fails_34 : decode cX8_fails 34 = .ok (.return_, 1) := dc0 (j := 34) sX8_fails_0 rfl op_177
theorem sX8_is_0 : sgm cX8_is 0 [42, 180, 0, 108, 154, 0, 15, 42, 180, 0, 92, 27, 160, 0, 7, 4, 167, 0, 4, 3, 172] := by decide +kernel
theorem dX8_is_0 : decode cX8_is 0 = .ok (.aload_n 0, 1) := dc0 (j := 0) sX8_is_0 rfl op_42
theorem dX8_is_1 : decode cX8_is 1 = .ok (.getfield 108, 3) := dcB (j := 1) (f := Instr.getfield) sX8_is_0 rfl op_180 rfl
theorem dX8_is_4 : decode cX8_is 4 = .ok (.ifCond .ne 15, 3) := dcTp (j := 4) (v := 15) (f := Instr.ifCond .ne) sX8_is_0 rfl op_154 rfl rfl
theorem dX8_is_7 : decode cX8_is 7 = .ok (.aload_n 0, 1) := dc0 (j := 7) sX8_is_0 rfl op_42
theorem dX8_is_8 : decode cX8_is 8 = .ok (.getfield 92, 3) := dcB (j := 8) (f := Instr.getfield) sX8_is_0 rfl op_180 rfl
theorem dX8_is_11 : decode cX8_is 11 = .ok (.iload_n 1, 1) := dc0 (j := 11) sX8_is_0 rfl op_27
theorem dX8_is_12 : decode cX8_is 12 = .ok (.if_icmp .ne 7, 3) := dcTp (j := 12) (v := 7) (f := Instr.if_icmp .ne) sX8_is_0 rfl op_160 rfl rfl
theorem dX8_is_15 : decode cX8_is 15 = .ok (.iconst 1, 1) := dc0 (j := 15) sX8_is_0 rfl op_4
theorem dX8_is_16 : decode cX8_is 16 = .ok (.goto 4, 3) := dcTp (j := 16) (v := 4) (f := Instr.goto) sX8_is_0 rfl op_167 rfl rfl
theorem dX8_is_19 : decode cX8_is 19 = .ok (.iconst 0, 1) := dc0 (j := 19) sX8_is_0 rfl op_3
theorem dX8_is_20 : decode cX8_is 20 = .ok (.ireturn, 1) := dc0 (j := 20) sX8_is_0 rfl op_172
theorem sX8_eats_0 : sgm cX8_eats 0 [42, 27, 182, 0, 114, 154, 0, 5, 3, 172, 42, 182, 0, 117, 4, 172] := by decide +kernel
theorem dX8_eats_0 : decode cX8_eats 0 = .ok (.aload_n 0, 1) := dc0 (j := 0) sX8_eats_0 rfl op_42
theorem dX8_eats_1 : decode cX8_eats 1 = .ok (.iload_n 1, 1) := dc0 (j := 1) sX8_eats_0 rfl op_27
theorem dX8_eats_2 : decode cX8_eats 2 = .ok (.invokevirtual 114, 3) := dcB (j := 2) (f := Instr.invokevirtual) sX8_eats_0 rfl op_182 rfl
theorem dX8_eats_5 : decode cX8_eats 5 = .ok (.ifCond .ne 5, 3) := dcTp (j := 5) (v := 5) (f := Instr.ifCond .ne) sX8_eats_0 rfl op_154 rfl rfl
theorem dX8_eats_8 : decode cX8_eats 8 = .ok (.iconst 0, 1) := dc0 (j := 8) sX8_eats_0 rfl op_3
theorem dX8_eats_9 : decode cX8_eats 9 = .ok (.ireturn, 1) := dc0 (j := 9) sX8_eats_0 rfl op_172
theorem dX8_eats_10 : decode cX8_eats 10 = .ok (.aload_n 0, 1) := dc0 (j := 10) sX8_eats_0 rfl op_42
theorem dX8_eats_11 : decode cX8_eats 11 = .ok (.invokevirtual 117, 3) := dcB (j := 11) (f := Instr.invokevirtual) sX8_eats_0 rfl op_182 rfl
theorem dX8_eats_14 : decode cX8_eats 14 = .ok (.iconst 1, 1) := dc0 (j := 14) sX8_eats_0 rfl op_4
theorem dX8_eats_15 : decode cX8_eats 15 = .ok (.ireturn, 1) := dc0 (j := 15) sX8_eats_0 rfl op_172
theorem sX8_takes_0 : sgm cX8_takes 0 [42, 16, 9, 182, 0, 114, 154, 0, 11, 42, 5, 182, 0, 120, 167, 0, 23, 42, 180, 0, 105, 133, 27, 133, 28, 133, 184, 0, 124, 154, 0, 8, 42, 6] := by decide +kernel
theorem dX8_takes_0 : decode cX8_takes 0 = .ok (.aload_n 0, 1) := dc0 (j := 0) sX8_takes_0 rfl op_42
theorem dX8_takes_1 : decode cX8_takes 1 = .ok (.bipush 9, 2) := dcSp (j := 1) (a := 9) (f := Instr.bipush) sX8_takes_0 rfl op_16 rfl
theorem dX8_takes_3 : decode cX8_takes 3 = .ok (.invokevirtual 114, 3) := dcB (j := 3) (f := Instr.invokevirtual) sX8_takes_0 rfl op_182 rfl
theorem dX8_takes_6 : decode cX8_takes 6 = .ok (.ifCond .ne 11, 3) := dcTp (j := 6) (v := 11) (f := Instr.ifCond .ne) sX8_takes_0 rfl op_154 rfl rfl
theorem dX8_takes_9 : decode cX8_takes 9 = .ok (.aload_n 0, 1) := dc0 (j := 9) sX8_takes_0 rfl op_42
theorem dX8_takes_10 : decode cX8_takes 10 = .ok (.iconst 2, 1) := dc0 (j := 10) sX8_takes_0 rfl op_5
theorem dX8_takes_11 : decode cX8_takes 11 = .ok (.invokevirtual 120, 3) := dcB (j := 11) (f := Instr.invokevirtual) sX8_takes_0 rfl op_182 rfl
theorem dX8_takes_14 : decode cX8_takes 14 = .ok (.goto 23, 3) := dcTp (j := 14) (v := 23) (f := Instr.goto) sX8_takes_0 rfl op_167 rfl rfl
theorem dX8_takes_17 : decode cX8_takes 17 = .ok (.aload_n 0, 1) := dc0 (j := 17) sX8_takes_0 rfl op_42
theorem dX8_takes_18 : decode cX8_takes 18 = .ok (.getfield 105, 3) := dcB (j := 18) (f := Instr.getfield) sX8_takes_0 rfl op_180 rfl
theorem dX8_takes_21 : decode cX8_takes 21 = .ok (.i2l, 1) := dc0 (j := 21) sX8_takes_0 rfl op_133
theorem dX8_takes_22 : decode cX8_takes 22 = .ok (.iload_n 1, 1) := dc0 (j := 22) sX8_takes_0 rfl op_27
theorem dX8_takes_23 : decode cX8_takes 23 = .ok (.i2l, 1) := dc0 (j := 23) sX8_takes_0 rfl op_133
theorem dX8_takes_24 : decode cX8_takes 24 = .ok (.iload_n 2, 1) := dc0 (j := 24) sX8_takes_0 rfl op_28
theorem dX8_takes_25 : decode cX8_takes 25 = .ok (.i2l, 1) := dc0 (j := 25) sX8_takes_0 rfl op_133
theorem dX8_takes_26 : decode cX8_takes 26 = .ok (.invokestatic 124, 3) := dcB (j := 26) (f := Instr.invokestatic) sX8_takes_0 rfl op_184 rfl
theorem dX8_takes_29 : decode cX8_takes 29 = .ok (.ifCond .ne 8, 3) := dcTp (j := 29) (v := 8) (f := Instr.ifCond .ne) sX8_takes_0 rfl op_154 rfl rfl
theorem dX8_takes_32 : decode cX8_takes 32 = .ok (.aload_n 0, 1) := dc0 (j := 32) sX8_takes_0 rfl op_42
theorem dX8_takes_33 : decode cX8_takes 33 = .ok (.iconst 3, 1) := dc0 (j := 33) sX8_takes_0 rfl op_6
theorem sX8_takes_34 : sgm cX8_takes 34 [182, 0, 120, 42, 180, 0, 105, 62, 42, 180, 0, 108, 154, 0, 7, 42, 182, 0, 117, 29, 172] := by decide +kernel
theorem dX8_takes_34 : decode cX8_takes 34 = .ok (.invokevirtual 120, 3) := dcB (j := 0) (f := Instr.invokevirtual) sX8_takes_34 rfl op_182 rfl
theorem dX8_takes_37 : decode cX8_takes 37 = .ok (.aload_n 0, 1) := dc0 (j := 3) sX8_takes_34 rfl op_42
theorem dX8_takes_38 : decode cX8_takes 38 = .ok (.getfield 105, 3) := dcB (j := 4) (f := Instr.getfield) sX8_takes_34 rfl op_180 rfl
theorem dX8_takes_41 : decode cX8_takes 41 = .ok (.istore_n 3, 1) := dc0 (j := 7) sX8_takes_34 rfl op_62
theorem dX8_takes_42 : decode cX8_takes 42 = .ok (.aload_n 0, 1) := dc0 (j := 8) sX8_takes_34 rfl op_42
theorem dX8_takes_43 : decode cX8_takes 43 = .ok (.getfield 108, 3) := dcB (j := 9) (f := Instr.getfield) sX8_takes_34 rfl op_180 rfl
theorem dX8_takes_46 : decode cX8_takes 46 = .ok (.ifCond .ne 7, 3) := dcTp (j := 12) (v := 7) (f := Instr.ifCond .ne) sX8_takes_34 rfl op_154 rfl rfl
theorem dX8_takes_49 : decode cX8_takes 49 = .ok (.aload_n 0, 1) := dc0 (j := 15) sX8_takes_34 rfl op_42
theorem dX8_takes_50 : decode cX8_takes 50 = .ok (.invokevirtual 117, 3) := dcB (j := 16) (f := Instr.invokevirtual) sX8_takes_34 rfl op_182 rfl
theorem dX8_takes_53 : decode cX8_takes 53 = .ok (.iload_n 3, 1) := dc0 (j := 19) sX8_takes_34 rfl op_29
theorem dX8_takes_54 : decode cX8_takes 54 = .ok (.ireturn, 1) := dc0 (j := 20) sX8_takes_34 rfl op_172
theorem sX8_takesIf_0 : sgm cX8_takesIf 0 [42, 27, 182, 0, 128, 153, 0, 12, 42, 28, 29, 182, 0, 131, 167, 0, 5, 21, 4, 172] := by decide +kernel
theorem dX8_takesIf_0 : decode cX8_takesIf 0 = .ok (.aload_n 0, 1) := dc0 (j := 0) sX8_takesIf_0 rfl op_42
theorem dX8_takesIf_1 : decode cX8_takesIf 1 = .ok (.iload_n 1, 1) := dc0 (j := 1) sX8_takesIf_0 rfl op_27
theorem dX8_takesIf_2 : decode cX8_takesIf 2 = .ok (.invokevirtual 128, 3) := dcB (j := 2) (f := Instr.invokevirtual) sX8_takesIf_0 rfl op_182 rfl
theorem dX8_takesIf_5 : decode cX8_takesIf 5 = .ok (.ifCond .eq 12, 3) := dcTp (j := 5) (v := 12) (f := Instr.ifCond .eq) sX8_takesIf_0 rfl op_153 rfl rfl
theorem dX8_takesIf_8 : decode cX8_takesIf 8 = .ok (.aload_n 0, 1) := dc0 (j := 8) sX8_takesIf_0 rfl op_42
theorem dX8_takesIf_9 : decode cX8_takesIf 9 = .ok (.iload_n 2, 1) := dc0 (j := 9) sX8_takesIf_0 rfl op_28
theorem dX8_takesIf_10 : decode cX8_takesIf 10 = .ok (.iload_n 3, 1) := dc0 (j := 10) sX8_takesIf_0 rfl op_29
theorem dX8_takesIf_11 : decode cX8_takesIf 11 = .ok (.invokevirtual 131, 3) := dcB (j := 11) (f := Instr.invokevirtual) sX8_takesIf_0 rfl op_182 rfl
theorem dX8_takesIf_14 : decode cX8_takesIf 14 = .ok (.goto 5, 3) := dcTp (j := 14) (v := 5) (f := Instr.goto) sX8_takesIf_0 rfl op_167 rfl rfl
theorem dX8_takesIf_17 : decode cX8_takesIf 17 = .ok (.iload 4, 2) := dcA (j := 17) (f := Instr.iload) sX8_takesIf_0 rfl op_21
theorem dX8_takesIf_19 : decode cX8_takesIf 19 = .ok (.ireturn, 1) := dc0 (j := 19) sX8_takesIf_0 rfl op_172
theorem sX8_readSmith_0 : sgm cX8_readSmith 0 [42, 180, 0, 24, 3, 46, 60, 27, 16, 10, 160, 0, 8, 42, 7, 182, 0, 120, 42, 180, 0, 108, 153, 0, 4, 177, 42, 182, 0, 117, 42, 3, 16, 60] := by decide +kernel
theorem dX8_readSmith_0 : decode cX8_readSmith 0 = .ok (.aload_n 0, 1) := dc0 (j := 0) sX8_readSmith_0 rfl op_42
theorem dX8_readSmith_1 : decode cX8_readSmith 1 = .ok (.getfield 24, 3) := dcB (j := 1) (f := Instr.getfield) sX8_readSmith_0 rfl op_180 rfl
theorem dX8_readSmith_4 : decode cX8_readSmith 4 = .ok (.iconst 0, 1) := dc0 (j := 4) sX8_readSmith_0 rfl op_3
theorem dX8_readSmith_5 : decode cX8_readSmith 5 = .ok (.iaload, 1) := dc0 (j := 5) sX8_readSmith_0 rfl op_46
theorem dX8_readSmith_6 : decode cX8_readSmith 6 = .ok (.istore_n 1, 1) := dc0 (j := 6) sX8_readSmith_0 rfl op_60
theorem dX8_readSmith_7 : decode cX8_readSmith 7 = .ok (.iload_n 1, 1) := dc0 (j := 7) sX8_readSmith_0 rfl op_27
theorem dX8_readSmith_8 : decode cX8_readSmith 8 = .ok (.bipush 10, 2) := dcSp (j := 8) (a := 10) (f := Instr.bipush) sX8_readSmith_0 rfl op_16 rfl
theorem dX8_readSmith_10 : decode cX8_readSmith 10 = .ok (.if_icmp .ne 8, 3) := dcTp (j := 10) (v := 8) (f := Instr.if_icmp .ne) sX8_readSmith_0 rfl op_160 rfl rfl
theorem dX8_readSmith_13 : decode cX8_readSmith 13 = .ok (.aload_n 0, 1) := dc0 (j := 13) sX8_readSmith_0 rfl op_42
theorem dX8_readSmith_14 : decode cX8_readSmith 14 = .ok (.iconst 4, 1) := dc0 (j := 14) sX8_readSmith_0 rfl op_7
theorem dX8_readSmith_15 : decode cX8_readSmith 15 = .ok (.invokevirtual 120, 3) := dcB (j := 15) (f := Instr.invokevirtual) sX8_readSmith_0 rfl op_182 rfl
theorem dX8_readSmith_18 : decode cX8_readSmith 18 = .ok (.aload_n 0, 1) := dc0 (j := 18) sX8_readSmith_0 rfl op_42
theorem dX8_readSmith_19 : decode cX8_readSmith 19 = .ok (.getfield 108, 3) := dcB (j := 19) (f := Instr.getfield) sX8_readSmith_0 rfl op_180 rfl
theorem dX8_readSmith_22 : decode cX8_readSmith 22 = .ok (.ifCond .eq 4, 3) := dcTp (j := 22) (v := 4) (f := Instr.ifCond .eq) sX8_readSmith_0 rfl op_153 rfl rfl
theorem dX8_readSmith_25 : decode cX8_readSmith 25 = .ok (.return_, 1) := dc0 (j := 25) sX8_readSmith_0 rfl op_177
theorem dX8_readSmith_26 : decode cX8_readSmith 26 = .ok (.aload_n 0, 1) := dc0 (j := 26) sX8_readSmith_0 rfl op_42
theorem dX8_readSmith_27 : decode cX8_readSmith 27 = .ok (.invokevirtual 117, 3) := dcB (j := 27) (f := Instr.invokevirtual) sX8_readSmith_0 rfl op_182 rfl
theorem dX8_readSmith_30 : decode cX8_readSmith 30 = .ok (.aload_n 0, 1) := dc0 (j := 30) sX8_readSmith_0 rfl op_42
theorem dX8_readSmith_31 : decode cX8_readSmith 31 = .ok (.iconst 0, 1) := dc0 (j := 31) sX8_readSmith_0 rfl op_3
theorem dX8_readSmith_32 : decode cX8_readSmith 32 = .ok (.bipush 60, 2) := dcSp (j := 32) (a := 60) (f := Instr.bipush) sX8_readSmith_0 rfl op_16 rfl
theorem sX8_readSmith_34 : sgm cX8_readSmith 34 [182, 0, 131, 61, 42, 4, 3, 16, 30, 8, 182, 0, 135, 62, 42, 5, 3, 17, 0, 200, 3, 182, 0, 135, 54, 4, 42, 6, 3, 17, 0, 200, 16, 20] := by decide +kernel
theorem dX8_readSmith_34 : decode cX8_readSmith 34 = .ok (.invokevirtual 131, 3) := dcB (j := 0) (f := Instr.invokevirtual) sX8_readSmith_34 rfl op_182 rfl
theorem dX8_readSmith_37 : decode cX8_readSmith 37 = .ok (.istore_n 2, 1) := dc0 (j := 3) sX8_readSmith_34 rfl op_61
theorem dX8_readSmith_38 : decode cX8_readSmith 38 = .ok (.aload_n 0, 1) := dc0 (j := 4) sX8_readSmith_34 rfl op_42
theorem dX8_readSmith_39 : decode cX8_readSmith 39 = .ok (.iconst 1, 1) := dc0 (j := 5) sX8_readSmith_34 rfl op_4
theorem dX8_readSmith_40 : decode cX8_readSmith 40 = .ok (.iconst 0, 1) := dc0 (j := 6) sX8_readSmith_34 rfl op_3
theorem dX8_readSmith_41 : decode cX8_readSmith 41 = .ok (.bipush 30, 2) := dcSp (j := 7) (a := 30) (f := Instr.bipush) sX8_readSmith_34 rfl op_16 rfl
theorem dX8_readSmith_43 : decode cX8_readSmith 43 = .ok (.iconst 5, 1) := dc0 (j := 9) sX8_readSmith_34 rfl op_8
theorem dX8_readSmith_44 : decode cX8_readSmith 44 = .ok (.invokevirtual 135, 3) := dcB (j := 10) (f := Instr.invokevirtual) sX8_readSmith_34 rfl op_182 rfl
theorem dX8_readSmith_47 : decode cX8_readSmith 47 = .ok (.istore_n 3, 1) := dc0 (j := 13) sX8_readSmith_34 rfl op_62
theorem dX8_readSmith_48 : decode cX8_readSmith 48 = .ok (.aload_n 0, 1) := dc0 (j := 14) sX8_readSmith_34 rfl op_42
theorem dX8_readSmith_49 : decode cX8_readSmith 49 = .ok (.iconst 2, 1) := dc0 (j := 15) sX8_readSmith_34 rfl op_5
theorem dX8_readSmith_50 : decode cX8_readSmith 50 = .ok (.iconst 0, 1) := dc0 (j := 16) sX8_readSmith_34 rfl op_3
theorem dX8_readSmith_51 : decode cX8_readSmith 51 = .ok (.sipush 200, 3) := dcTp (j := 17) (v := 200) (f := Instr.sipush) sX8_readSmith_34 rfl op_17 rfl rfl
theorem dX8_readSmith_54 : decode cX8_readSmith 54 = .ok (.iconst 0, 1) := dc0 (j := 20) sX8_readSmith_34 rfl op_3
theorem dX8_readSmith_55 : decode cX8_readSmith 55 = .ok (.invokevirtual 135, 3) := dcB (j := 21) (f := Instr.invokevirtual) sX8_readSmith_34 rfl op_182 rfl
theorem dX8_readSmith_58 : decode cX8_readSmith 58 = .ok (.istore 4, 2) := dcA (j := 24) (f := Instr.istore) sX8_readSmith_34 rfl op_54
theorem dX8_readSmith_60 : decode cX8_readSmith 60 = .ok (.aload_n 0, 1) := dc0 (j := 26) sX8_readSmith_34 rfl op_42
theorem dX8_readSmith_61 : decode cX8_readSmith 61 = .ok (.iconst 3, 1) := dc0 (j := 27) sX8_readSmith_34 rfl op_6
theorem dX8_readSmith_62 : decode cX8_readSmith 62 = .ok (.iconst 0, 1) := dc0 (j := 28) sX8_readSmith_34 rfl op_3
theorem dX8_readSmith_63 : decode cX8_readSmith 63 = .ok (.sipush 200, 3) := dcTp (j := 29) (v := 200) (f := Instr.sipush) sX8_readSmith_34 rfl op_17 rfl rfl
theorem dX8_readSmith_66 : decode cX8_readSmith 66 = .ok (.bipush 20, 2) := dcSp (j := 32) (a := 20) (f := Instr.bipush) sX8_readSmith_34 rfl op_16 rfl
theorem sX8_readSmith_68 : sgm cX8_readSmith 68 [182, 0, 135, 54, 5, 42, 7, 21, 5, 17, 0, 200, 21, 5, 16, 100, 164, 0, 8, 21, 5, 167, 0, 5, 16, 100, 182, 0, 135, 54, 6, 42, 8, 3, 16, 20] := by decide +kernel
theorem dX8_readSmith_68 : decode cX8_readSmith 68 = .ok (.invokevirtual 135, 3) := dcB (j := 0) (f := Instr.invokevirtual) sX8_readSmith_68 rfl op_182 rfl
theorem dX8_readSmith_71 : decode cX8_readSmith 71 = .ok (.istore 5, 2) := dcA (j := 3) (f := Instr.istore) sX8_readSmith_68 rfl op_54
theorem dX8_readSmith_73 : decode cX8_readSmith 73 = .ok (.aload_n 0, 1) := dc0 (j := 5) sX8_readSmith_68 rfl op_42
theorem dX8_readSmith_74 : decode cX8_readSmith 74 = .ok (.iconst 4, 1) := dc0 (j := 6) sX8_readSmith_68 rfl op_7
theorem dX8_readSmith_75 : decode cX8_readSmith 75 = .ok (.iload 5, 2) := dcA (j := 7) (f := Instr.iload) sX8_readSmith_68 rfl op_21
theorem dX8_readSmith_77 : decode cX8_readSmith 77 = .ok (.sipush 200, 3) := dcTp (j := 9) (v := 200) (f := Instr.sipush) sX8_readSmith_68 rfl op_17 rfl rfl
theorem dX8_readSmith_80 : decode cX8_readSmith 80 = .ok (.iload 5, 2) := dcA (j := 12) (f := Instr.iload) sX8_readSmith_68 rfl op_21
theorem dX8_readSmith_82 : decode cX8_readSmith 82 = .ok (.bipush 100, 2) := dcSp (j := 14) (a := 100) (f := Instr.bipush) sX8_readSmith_68 rfl op_16 rfl
theorem dX8_readSmith_84 : decode cX8_readSmith 84 = .ok (.if_icmp .le 8, 3) := dcTp (j := 16) (v := 8) (f := Instr.if_icmp .le) sX8_readSmith_68 rfl op_164 rfl rfl
theorem dX8_readSmith_87 : decode cX8_readSmith 87 = .ok (.iload 5, 2) := dcA (j := 19) (f := Instr.iload) sX8_readSmith_68 rfl op_21
theorem dX8_readSmith_89 : decode cX8_readSmith 89 = .ok (.goto 5, 3) := dcTp (j := 21) (v := 5) (f := Instr.goto) sX8_readSmith_68 rfl op_167 rfl rfl
theorem dX8_readSmith_92 : decode cX8_readSmith 92 = .ok (.bipush 100, 2) := dcSp (j := 24) (a := 100) (f := Instr.bipush) sX8_readSmith_68 rfl op_16 rfl
theorem dX8_readSmith_94 : decode cX8_readSmith 94 = .ok (.invokevirtual 135, 3) := dcB (j := 26) (f := Instr.invokevirtual) sX8_readSmith_68 rfl op_182 rfl
theorem dX8_readSmith_97 : decode cX8_readSmith 97 = .ok (.istore 6, 2) := dcA (j := 29) (f := Instr.istore) sX8_readSmith_68 rfl op_54
theorem dX8_readSmith_99 : decode cX8_readSmith 99 = .ok (.aload_n 0, 1) := dc0 (j := 31) sX8_readSmith_68 rfl op_42
theorem dX8_readSmith_100 : decode cX8_readSmith 100 = .ok (.iconst 5, 1) := dc0 (j := 32) sX8_readSmith_68 rfl op_8
theorem dX8_readSmith_101 : decode cX8_readSmith 101 = .ok (.iconst 0, 1) := dc0 (j := 33) sX8_readSmith_68 rfl op_3
theorem dX8_readSmith_102 : decode cX8_readSmith 102 = .ok (.bipush 20, 2) := dcSp (j := 34) (a := 20) (f := Instr.bipush) sX8_readSmith_68 rfl op_16 rfl
theorem sX8_readSmith_104 : sgm cX8_readSmith 104 [6, 182, 0, 135, 54, 7, 42, 180, 0, 108, 153, 0, 4, 177, 42, 180, 0, 24, 7, 27, 96, 28, 79, 42, 180, 0, 24, 16, 14, 27, 96, 29, 79, 42] := by decide +kernel
theorem dX8_readSmith_104 : decode cX8_readSmith 104 = .ok (.iconst 3, 1) := dc0 (j := 0) sX8_readSmith_104 rfl op_6
theorem dX8_readSmith_105 : decode cX8_readSmith 105 = .ok (.invokevirtual 135, 3) := dcB (j := 1) (f := Instr.invokevirtual) sX8_readSmith_104 rfl op_182 rfl
theorem dX8_readSmith_108 : decode cX8_readSmith 108 = .ok (.istore 7, 2) := dcA (j := 4) (f := Instr.istore) sX8_readSmith_104 rfl op_54
theorem dX8_readSmith_110 : decode cX8_readSmith 110 = .ok (.aload_n 0, 1) := dc0 (j := 6) sX8_readSmith_104 rfl op_42
theorem dX8_readSmith_111 : decode cX8_readSmith 111 = .ok (.getfield 108, 3) := dcB (j := 7) (f := Instr.getfield) sX8_readSmith_104 rfl op_180 rfl
theorem dX8_readSmith_114 : decode cX8_readSmith 114 = .ok (.ifCond .eq 4, 3) := dcTp (j := 10) (v := 4) (f := Instr.ifCond .eq) sX8_readSmith_104 rfl op_153 rfl rfl
theorem dX8_readSmith_117 : decode cX8_readSmith 117 = .ok (.return_, 1) := dc0 (j := 13) sX8_readSmith_104 rfl op_177
theorem dX8_readSmith_118 : decode cX8_readSmith 118 = .ok (.aload_n 0, 1) := dc0 (j := 14) sX8_readSmith_104 rfl op_42
theorem dX8_readSmith_119 : decode cX8_readSmith 119 = .ok (.getfield 24, 3) := dcB (j := 15) (f := Instr.getfield) sX8_readSmith_104 rfl op_180 rfl
theorem dX8_readSmith_122 : decode cX8_readSmith 122 = .ok (.iconst 4, 1) := dc0 (j := 18) sX8_readSmith_104 rfl op_7
theorem dX8_readSmith_123 : decode cX8_readSmith 123 = .ok (.iload_n 1, 1) := dc0 (j := 19) sX8_readSmith_104 rfl op_27
theorem dX8_readSmith_124 : decode cX8_readSmith 124 = .ok (.iadd, 1) := dc0 (j := 20) sX8_readSmith_104 rfl op_96
theorem dX8_readSmith_125 : decode cX8_readSmith 125 = .ok (.iload_n 2, 1) := dc0 (j := 21) sX8_readSmith_104 rfl op_28
theorem dX8_readSmith_126 : decode cX8_readSmith 126 = .ok (.iastore, 1) := dc0 (j := 22) sX8_readSmith_104 rfl op_79
theorem dX8_readSmith_127 : decode cX8_readSmith 127 = .ok (.aload_n 0, 1) := dc0 (j := 23) sX8_readSmith_104 rfl op_42
theorem dX8_readSmith_128 : decode cX8_readSmith 128 = .ok (.getfield 24, 3) := dcB (j := 24) (f := Instr.getfield) sX8_readSmith_104 rfl op_180 rfl
theorem dX8_readSmith_131 : decode cX8_readSmith 131 = .ok (.bipush 14, 2) := dcSp (j := 27) (a := 14) (f := Instr.bipush) sX8_readSmith_104 rfl op_16 rfl
theorem dX8_readSmith_133 : decode cX8_readSmith 133 = .ok (.iload_n 1, 1) := dc0 (j := 29) sX8_readSmith_104 rfl op_27
theorem dX8_readSmith_134 : decode cX8_readSmith 134 = .ok (.iadd, 1) := dc0 (j := 30) sX8_readSmith_104 rfl op_96
theorem dX8_readSmith_135 : decode cX8_readSmith 135 = .ok (.iload_n 3, 1) := dc0 (j := 31) sX8_readSmith_104 rfl op_29
theorem dX8_readSmith_136 : decode cX8_readSmith 136 = .ok (.iastore, 1) := dc0 (j := 32) sX8_readSmith_104 rfl op_79
theorem dX8_readSmith_137 : decode cX8_readSmith 137 = .ok (.aload_n 0, 1) := dc0 (j := 33) sX8_readSmith_104 rfl op_42
theorem sX8_readSmith_138 : sgm cX8_readSmith 138 [180, 0, 24, 16, 24, 27, 96, 21, 4, 79, 42, 180, 0, 24, 16, 34, 27, 96, 21, 5, 79, 42, 180, 0, 24, 16, 44, 27, 96, 21, 6, 79, 42, 180, 0, 24] := by decide +kernel
theorem dX8_readSmith_138 : decode cX8_readSmith 138 = .ok (.getfield 24, 3) := dcB (j := 0) (f := Instr.getfield) sX8_readSmith_138 rfl op_180 rfl
theorem dX8_readSmith_141 : decode cX8_readSmith 141 = .ok (.bipush 24, 2) := dcSp (j := 3) (a := 24) (f := Instr.bipush) sX8_readSmith_138 rfl op_16 rfl
theorem dX8_readSmith_143 : decode cX8_readSmith 143 = .ok (.iload_n 1, 1) := dc0 (j := 5) sX8_readSmith_138 rfl op_27
theorem dX8_readSmith_144 : decode cX8_readSmith 144 = .ok (.iadd, 1) := dc0 (j := 6) sX8_readSmith_138 rfl op_96
theorem dX8_readSmith_145 : decode cX8_readSmith 145 = .ok (.iload 4, 2) := dcA (j := 7) (f := Instr.iload) sX8_readSmith_138 rfl op_21
theorem dX8_readSmith_147 : decode cX8_readSmith 147 = .ok (.iastore, 1) := dc0 (j := 9) sX8_readSmith_138 rfl op_79
theorem dX8_readSmith_148 : decode cX8_readSmith 148 = .ok (.aload_n 0, 1) := dc0 (j := 10) sX8_readSmith_138 rfl op_42
theorem dX8_readSmith_149 : decode cX8_readSmith 149 = .ok (.getfield 24, 3) := dcB (j := 11) (f := Instr.getfield) sX8_readSmith_138 rfl op_180 rfl
theorem dX8_readSmith_152 : decode cX8_readSmith 152 = .ok (.bipush 34, 2) := dcSp (j := 14) (a := 34) (f := Instr.bipush) sX8_readSmith_138 rfl op_16 rfl
theorem dX8_readSmith_154 : decode cX8_readSmith 154 = .ok (.iload_n 1, 1) := dc0 (j := 16) sX8_readSmith_138 rfl op_27
theorem dX8_readSmith_155 : decode cX8_readSmith 155 = .ok (.iadd, 1) := dc0 (j := 17) sX8_readSmith_138 rfl op_96
theorem dX8_readSmith_156 : decode cX8_readSmith 156 = .ok (.iload 5, 2) := dcA (j := 18) (f := Instr.iload) sX8_readSmith_138 rfl op_21
theorem dX8_readSmith_158 : decode cX8_readSmith 158 = .ok (.iastore, 1) := dc0 (j := 20) sX8_readSmith_138 rfl op_79
theorem dX8_readSmith_159 : decode cX8_readSmith 159 = .ok (.aload_n 0, 1) := dc0 (j := 21) sX8_readSmith_138 rfl op_42
theorem dX8_readSmith_160 : decode cX8_readSmith 160 = .ok (.getfield 24, 3) := dcB (j := 22) (f := Instr.getfield) sX8_readSmith_138 rfl op_180 rfl
theorem dX8_readSmith_163 : decode cX8_readSmith 163 = .ok (.bipush 44, 2) := dcSp (j := 25) (a := 44) (f := Instr.bipush) sX8_readSmith_138 rfl op_16 rfl
theorem dX8_readSmith_165 : decode cX8_readSmith 165 = .ok (.iload_n 1, 1) := dc0 (j := 27) sX8_readSmith_138 rfl op_27
theorem dX8_readSmith_166 : decode cX8_readSmith 166 = .ok (.iadd, 1) := dc0 (j := 28) sX8_readSmith_138 rfl op_96
theorem dX8_readSmith_167 : decode cX8_readSmith 167 = .ok (.iload 6, 2) := dcA (j := 29) (f := Instr.iload) sX8_readSmith_138 rfl op_21
theorem dX8_readSmith_169 : decode cX8_readSmith 169 = .ok (.iastore, 1) := dc0 (j := 31) sX8_readSmith_138 rfl op_79
theorem dX8_readSmith_170 : decode cX8_readSmith 170 = .ok (.aload_n 0, 1) := dc0 (j := 32) sX8_readSmith_138 rfl op_42
theorem dX8_readSmith_171 : decode cX8_readSmith 171 = .ok (.getfield 24, 3) := dcB (j := 33) (f := Instr.getfield) sX8_readSmith_138 rfl op_180 rfl
theorem sX8_readSmith_174 : sgm cX8_readSmith 174 [16, 54, 27, 96, 21, 7, 79, 42, 180, 0, 24, 3, 92, 46, 4, 96, 79, 177] := by decide +kernel
theorem dX8_readSmith_174 : decode cX8_readSmith 174 = .ok (.bipush 54, 2) := dcSp (j := 0) (a := 54) (f := Instr.bipush) sX8_readSmith_174 rfl op_16 rfl
theorem dX8_readSmith_176 : decode cX8_readSmith 176 = .ok (.iload_n 1, 1) := dc0 (j := 2) sX8_readSmith_174 rfl op_27
theorem dX8_readSmith_177 : decode cX8_readSmith 177 = .ok (.iadd, 1) := dc0 (j := 3) sX8_readSmith_174 rfl op_96
theorem dX8_readSmith_178 : decode cX8_readSmith 178 = .ok (.iload 7, 2) := dcA (j := 4) (f := Instr.iload) sX8_readSmith_174 rfl op_21
theorem dX8_readSmith_180 : decode cX8_readSmith 180 = .ok (.iastore, 1) := dc0 (j := 6) sX8_readSmith_174 rfl op_79
theorem dX8_readSmith_181 : decode cX8_readSmith 181 = .ok (.aload_n 0, 1) := dc0 (j := 7) sX8_readSmith_174 rfl op_42
theorem dX8_readSmith_182 : decode cX8_readSmith 182 = .ok (.getfield 24, 3) := dcB (j := 8) (f := Instr.getfield) sX8_readSmith_174 rfl op_180 rfl
theorem dX8_readSmith_185 : decode cX8_readSmith 185 = .ok (.iconst 0, 1) := dc0 (j := 11) sX8_readSmith_174 rfl op_3
theorem dX8_readSmith_186 : decode cX8_readSmith 186 = .ok (.dup2, 1) := dc0 (j := 12) sX8_readSmith_174 rfl op_92
theorem dX8_readSmith_187 : decode cX8_readSmith 187 = .ok (.iaload, 1) := dc0 (j := 13) sX8_readSmith_174 rfl op_46
theorem dX8_readSmith_188 : decode cX8_readSmith 188 = .ok (.iconst 1, 1) := dc0 (j := 14) sX8_readSmith_174 rfl op_4
theorem dX8_readSmith_189 : decode cX8_readSmith 189 = .ok (.iadd, 1) := dc0 (j := 15) sX8_readSmith_174 rfl op_96
theorem dX8_readSmith_190 : decode cX8_readSmith 190 = .ok (.iastore, 1) := dc0 (j := 16) sX8_readSmith_174 rfl op_79
theorem dX8_readSmith_191 : decode cX8_readSmith 191 = .ok (.return_, 1) := dc0 (j := 17) sX8_readSmith_174 rfl op_177
theorem sX8_readBlows_0 : sgm cX8_readBlows 0 [42, 3, 42, 180, 0, 24, 3, 46, 4, 100, 182, 0, 131, 60, 42, 3, 42, 180, 0, 24, 3, 46, 4, 100, 182, 0, 131, 61, 42, 180, 0, 108, 154, 0, 15, 42] := by decide +kernel
theorem dX8_readBlows_0 : decode cX8_readBlows 0 = .ok (.aload_n 0, 1) := dc0 (j := 0) sX8_readBlows_0 rfl op_42
theorem dX8_readBlows_1 : decode cX8_readBlows 1 = .ok (.iconst 0, 1) := dc0 (j := 1) sX8_readBlows_0 rfl op_3
theorem dX8_readBlows_2 : decode cX8_readBlows 2 = .ok (.aload_n 0, 1) := dc0 (j := 2) sX8_readBlows_0 rfl op_42
theorem dX8_readBlows_3 : decode cX8_readBlows 3 = .ok (.getfield 24, 3) := dcB (j := 3) (f := Instr.getfield) sX8_readBlows_0 rfl op_180 rfl
theorem dX8_readBlows_6 : decode cX8_readBlows 6 = .ok (.iconst 0, 1) := dc0 (j := 6) sX8_readBlows_0 rfl op_3
theorem dX8_readBlows_7 : decode cX8_readBlows 7 = .ok (.iaload, 1) := dc0 (j := 7) sX8_readBlows_0 rfl op_46
theorem dX8_readBlows_8 : decode cX8_readBlows 8 = .ok (.iconst 1, 1) := dc0 (j := 8) sX8_readBlows_0 rfl op_4
theorem dX8_readBlows_9 : decode cX8_readBlows 9 = .ok (.isub, 1) := dc0 (j := 9) sX8_readBlows_0 rfl op_100
theorem dX8_readBlows_10 : decode cX8_readBlows 10 = .ok (.invokevirtual 131, 3) := dcB (j := 10) (f := Instr.invokevirtual) sX8_readBlows_0 rfl op_182 rfl
theorem dX8_readBlows_13 : decode cX8_readBlows 13 = .ok (.istore_n 1, 1) := dc0 (j := 13) sX8_readBlows_0 rfl op_60
theorem dX8_readBlows_14 : decode cX8_readBlows 14 = .ok (.aload_n 0, 1) := dc0 (j := 14) sX8_readBlows_0 rfl op_42
theorem dX8_readBlows_15 : decode cX8_readBlows 15 = .ok (.iconst 0, 1) := dc0 (j := 15) sX8_readBlows_0 rfl op_3
theorem dX8_readBlows_16 : decode cX8_readBlows 16 = .ok (.aload_n 0, 1) := dc0 (j := 16) sX8_readBlows_0 rfl op_42
theorem dX8_readBlows_17 : decode cX8_readBlows 17 = .ok (.getfield 24, 3) := dcB (j := 17) (f := Instr.getfield) sX8_readBlows_0 rfl op_180 rfl
theorem dX8_readBlows_20 : decode cX8_readBlows 20 = .ok (.iconst 0, 1) := dc0 (j := 20) sX8_readBlows_0 rfl op_3
theorem dX8_readBlows_21 : decode cX8_readBlows 21 = .ok (.iaload, 1) := dc0 (j := 21) sX8_readBlows_0 rfl op_46
theorem dX8_readBlows_22 : decode cX8_readBlows 22 = .ok (.iconst 1, 1) := dc0 (j := 22) sX8_readBlows_0 rfl op_4
theorem dX8_readBlows_23 : decode cX8_readBlows 23 = .ok (.isub, 1) := dc0 (j := 23) sX8_readBlows_0 rfl op_100
theorem dX8_readBlows_24 : decode cX8_readBlows 24 = .ok (.invokevirtual 131, 3) := dcB (j := 24) (f := Instr.invokevirtual) sX8_readBlows_0 rfl op_182 rfl
theorem dX8_readBlows_27 : decode cX8_readBlows 27 = .ok (.istore_n 2, 1) := dc0 (j := 27) sX8_readBlows_0 rfl op_61
theorem dX8_readBlows_28 : decode cX8_readBlows 28 = .ok (.aload_n 0, 1) := dc0 (j := 28) sX8_readBlows_0 rfl op_42
theorem dX8_readBlows_29 : decode cX8_readBlows 29 = .ok (.getfield 108, 3) := dcB (j := 29) (f := Instr.getfield) sX8_readBlows_0 rfl op_180 rfl
theorem dX8_readBlows_32 : decode cX8_readBlows 32 = .ok (.ifCond .ne 15, 3) := dcTp (j := 32) (v := 15) (f := Instr.ifCond .ne) sX8_readBlows_0 rfl op_154 rfl rfl
theorem dX8_readBlows_35 : decode cX8_readBlows 35 = .ok (.aload_n 0, 1) := dc0 (j := 35) sX8_readBlows_0 rfl op_42
theorem sX8_readBlows_36 : sgm cX8_readBlows 36 [180, 0, 24, 16, 84, 27, 96, 28, 4, 96, 79, 177] := by decide +kernel
theorem dX8_readBlows_36 : decode cX8_readBlows 36 = .ok (.getfield 24, 3) := dcB (j := 0) (f := Instr.getfield) sX8_readBlows_36 rfl op_180 rfl
theorem dX8_readBlows_39 : decode cX8_readBlows 39 = .ok (.bipush 84, 2) := dcSp (j := 3) (a := 84) (f := Instr.bipush) sX8_readBlows_36 rfl op_16 rfl
theorem dX8_readBlows_41 : decode cX8_readBlows 41 = .ok (.iload_n 1, 1) := dc0 (j := 5) sX8_readBlows_36 rfl op_27
theorem dX8_readBlows_42 : decode cX8_readBlows 42 = .ok (.iadd, 1) := dc0 (j := 6) sX8_readBlows_36 rfl op_96
theorem dX8_readBlows_43 : decode cX8_readBlows 43 = .ok (.iload_n 2, 1) := dc0 (j := 7) sX8_readBlows_36 rfl op_28
theorem dX8_readBlows_44 : decode cX8_readBlows 44 = .ok (.iconst 1, 1) := dc0 (j := 8) sX8_readBlows_36 rfl op_4
theorem dX8_readBlows_45 : decode cX8_readBlows 45 = .ok (.iadd, 1) := dc0 (j := 9) sX8_readBlows_36 rfl op_96
theorem dX8_readBlows_46 : decode cX8_readBlows 46 = .ok (.iastore, 1) := dc0 (j := 10) sX8_readBlows_36 rfl op_79
theorem dX8_readBlows_47 : decode cX8_readBlows 47 = .ok (.return_, 1) := dc0 (j := 11) sX8_readBlows_36 rfl op_177
theorem sX8_street_0 : sgm cX8_street 0 [42, 3, 181, 0, 1, 27, 133, 9, 42, 180, 0, 64, 133, 184, 0, 124, 154, 0, 6, 16, 253, 172, 42, 27, 181, 0, 67, 42, 3, 181, 0, 64, 42, 3] := by decide +kernel
theorem dX8_street_0 : decode cX8_street 0 = .ok (.aload_n 0, 1) := dc0 (j := 0) sX8_street_0 rfl op_42
theorem dX8_street_1 : decode cX8_street 1 = .ok (.iconst 0, 1) := dc0 (j := 1) sX8_street_0 rfl op_3
theorem dX8_street_2 : decode cX8_street 2 = .ok (.putfield 1, 3) := dcB (j := 2) (f := Instr.putfield) sX8_street_0 rfl op_181 rfl
theorem dX8_street_5 : decode cX8_street 5 = .ok (.iload_n 1, 1) := dc0 (j := 5) sX8_street_0 rfl op_27
theorem dX8_street_6 : decode cX8_street 6 = .ok (.i2l, 1) := dc0 (j := 6) sX8_street_0 rfl op_133
theorem dX8_street_7 : decode cX8_street 7 = .ok (.lconst 0, 1) := dc0 (j := 7) sX8_street_0 rfl op_9
theorem dX8_street_8 : decode cX8_street 8 = .ok (.aload_n 0, 1) := dc0 (j := 8) sX8_street_0 rfl op_42
