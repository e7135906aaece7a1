theorem dX8_soonest_208 : decode cX8_soonest 208 = .ok (.iload 4, 2) := dcA (j := 32) (f := Instr.iload) sX8_soonest_176 rfl op_21
theorem dX8_soonest_210 : decode cX8_soonest 210 = .ok (.istore_n 1, 1) := dc0 (j := 34) sX8_soonest_176 rfl op_60
theorem sX8_soonest_211 : sgm cX8_soonest 211 [132, 3, 1, 167, 255, 176, 42, 182, 0, 209, 28, 172] := by decide +kernel
theorem dX8_soonest_211 : decode cX8_soonest 211 = .ok (.iinc 3 1, 3) := dcIp (j := 0) sX8_soonest_211 rfl op_132 rfl
theorem dX8_soonest_214 : decode cX8_soonest 214 = .ok (.goto (-80), 3) := dcTn (j := 3) (v := 80) (f := Instr.goto) sX8_soonest_211 rfl op_167 rfl rfl rfl
theorem dX8_soonest_217 : decode cX8_soonest 217 = .ok (.aload_n 0, 1) := dc0 (j := 6) sX8_soonest_211 rfl op_42
theorem dX8_soonest_218 : decode cX8_soonest 218 = .ok (.invokevirtual 209, 3) := dcB (j := 7) (f := Instr.invokevirtual) sX8_soonest_211 rfl op_182 rfl
theorem dX8_soonest_221 : decode cX8_soonest 221 = .ok (.iload_n 2, 1) := dc0 (j := 10) sX8_soonest_211 rfl op_28
theorem dX8_soonest_222 : decode cX8_soonest 222 = .ok (.ireturn, 1) := dc0 (j := 11) sX8_soonest_211 rfl op_172
theorem sX8_waysSeen_0 : sgm cX8_waysSeen 0 [3, 61, 42, 4, 42, 180, 0, 13, 3, 46, 120, 4, 100, 181, 1, 26, 42, 42, 180, 1, 26, 181, 1, 29, 3, 62, 29, 4, 42, 180, 0, 13, 3, 46, 120] := by decide +kernel
theorem dX8_waysSeen_0 : decode cX8_waysSeen 0 = .ok (.iconst 0, 1) := dc0 (j := 0) sX8_waysSeen_0 rfl op_3
theorem dX8_waysSeen_1 : decode cX8_waysSeen 1 = .ok (.istore_n 2, 1) := dc0 (j := 1) sX8_waysSeen_0 rfl op_61
theorem dX8_waysSeen_2 : decode cX8_waysSeen 2 = .ok (.aload_n 0, 1) := dc0 (j := 2) sX8_waysSeen_0 rfl op_42
theorem dX8_waysSeen_3 : decode cX8_waysSeen 3 = .ok (.iconst 1, 1) := dc0 (j := 3) sX8_waysSeen_0 rfl op_4
theorem dX8_waysSeen_4 : decode cX8_waysSeen 4 = .ok (.aload_n 0, 1) := dc0 (j := 4) sX8_waysSeen_0 rfl op_42
theorem dX8_waysSeen_5 : decode cX8_waysSeen 5 = .ok (.getfield 13, 3) := dcB (j := 5) (f := Instr.getfield) sX8_waysSeen_0 rfl op_180 rfl
theorem dX8_waysSeen_8 : decode cX8_waysSeen 8 = .ok (.iconst 0, 1) := dc0 (j := 8) sX8_waysSeen_0 rfl op_3
theorem dX8_waysSeen_9 : decode cX8_waysSeen 9 = .ok (.iaload, 1) := dc0 (j := 9) sX8_waysSeen_0 rfl op_46
theorem dX8_waysSeen_10 : decode cX8_waysSeen 10 = .ok (.ishl, 1) := dc0 (j := 10) sX8_waysSeen_0 rfl op_120
theorem dX8_waysSeen_11 : decode cX8_waysSeen 11 = .ok (.iconst 1, 1) := dc0 (j := 11) sX8_waysSeen_0 rfl op_4
theorem dX8_waysSeen_12 : decode cX8_waysSeen 12 = .ok (.isub, 1) := dc0 (j := 12) sX8_waysSeen_0 rfl op_100
theorem dX8_waysSeen_13 : decode cX8_waysSeen 13 = .ok (.putfield 282, 3) := dcB (j := 13) (f := Instr.putfield) sX8_waysSeen_0 rfl op_181 rfl
theorem dX8_waysSeen_16 : decode cX8_waysSeen 16 = .ok (.aload_n 0, 1) := dc0 (j := 16) sX8_waysSeen_0 rfl op_42
theorem dX8_waysSeen_17 : decode cX8_waysSeen 17 = .ok (.aload_n 0, 1) := dc0 (j := 17) sX8_waysSeen_0 rfl op_42
theorem dX8_waysSeen_18 : decode cX8_waysSeen 18 = .ok (.getfield 282, 3) := dcB (j := 18) (f := Instr.getfield) sX8_waysSeen_0 rfl op_180 rfl
theorem dX8_waysSeen_21 : decode cX8_waysSeen 21 = .ok (.putfield 285, 3) := dcB (j := 21) (f := Instr.putfield) sX8_waysSeen_0 rfl op_181 rfl
theorem dX8_waysSeen_24 : decode cX8_waysSeen 24 = .ok (.iconst 0, 1) := dc0 (j := 24) sX8_waysSeen_0 rfl op_3
theorem dX8_waysSeen_25 : decode cX8_waysSeen 25 = .ok (.istore_n 3, 1) := dc0 (j := 25) sX8_waysSeen_0 rfl op_62
theorem dX8_waysSeen_26 : decode cX8_waysSeen 26 = .ok (.iload_n 3, 1) := dc0 (j := 26) sX8_waysSeen_0 rfl op_29
theorem dX8_waysSeen_27 : decode cX8_waysSeen 27 = .ok (.iconst 1, 1) := dc0 (j := 27) sX8_waysSeen_0 rfl op_4
theorem dX8_waysSeen_28 : decode cX8_waysSeen 28 = .ok (.aload_n 0, 1) := dc0 (j := 28) sX8_waysSeen_0 rfl op_42
theorem dX8_waysSeen_29 : decode cX8_waysSeen 29 = .ok (.getfield 13, 3) := dcB (j := 29) (f := Instr.getfield) sX8_waysSeen_0 rfl op_180 rfl
theorem dX8_waysSeen_32 : decode cX8_waysSeen 32 = .ok (.iconst 0, 1) := dc0 (j := 32) sX8_waysSeen_0 rfl op_3
theorem dX8_waysSeen_33 : decode cX8_waysSeen 33 = .ok (.iaload, 1) := dc0 (j := 33) sX8_waysSeen_0 rfl op_46
theorem dX8_waysSeen_34 : decode cX8_waysSeen 34 = .ok (.ishl, 1) := dc0 (j := 34) sX8_waysSeen_0 rfl op_120
theorem sX8_waysSeen_35 : sgm cX8_waysSeen 35 [162, 0, 102, 4, 54, 4, 3, 54, 5, 21, 5, 42, 180, 0, 13, 3, 46, 162, 0, 46, 21, 4, 153, 0, 41, 42, 21, 5, 29, 3, 182, 0, 170, 133, 42] := by decide +kernel
theorem dX8_waysSeen_35 : decode cX8_waysSeen 35 = .ok (.if_icmp .ge 102, 3) := dcTp (j := 0) (v := 102) (f := Instr.if_icmp .ge) sX8_waysSeen_35 rfl op_162 rfl rfl
theorem dX8_waysSeen_38 : decode cX8_waysSeen 38 = .ok (.iconst 1, 1) := dc0 (j := 3) sX8_waysSeen_35 rfl op_4
theorem dX8_waysSeen_39 : decode cX8_waysSeen 39 = .ok (.istore 4, 2) := dcA (j := 4) (f := Instr.istore) sX8_waysSeen_35 rfl op_54
theorem dX8_waysSeen_41 : decode cX8_waysSeen 41 = .ok (.iconst 0, 1) := dc0 (j := 6) sX8_waysSeen_35 rfl op_3
theorem dX8_waysSeen_42 : decode cX8_waysSeen 42 = .ok (.istore 5, 2) := dcA (j := 7) (f := Instr.istore) sX8_waysSeen_35 rfl op_54
theorem dX8_waysSeen_44 : decode cX8_waysSeen 44 = .ok (.iload 5, 2) := dcA (j := 9) (f := Instr.iload) sX8_waysSeen_35 rfl op_21
theorem dX8_waysSeen_46 : decode cX8_waysSeen 46 = .ok (.aload_n 0, 1) := dc0 (j := 11) sX8_waysSeen_35 rfl op_42
theorem dX8_waysSeen_47 : decode cX8_waysSeen 47 = .ok (.getfield 13, 3) := dcB (j := 12) (f := Instr.getfield) sX8_waysSeen_35 rfl op_180 rfl
theorem dX8_waysSeen_50 : decode cX8_waysSeen 50 = .ok (.iconst 0, 1) := dc0 (j := 15) sX8_waysSeen_35 rfl op_3
theorem dX8_waysSeen_51 : decode cX8_waysSeen 51 = .ok (.iaload, 1) := dc0 (j := 16) sX8_waysSeen_35 rfl op_46
theorem dX8_waysSeen_52 : decode cX8_waysSeen 52 = .ok (.if_icmp .ge 46, 3) := dcTp (j := 17) (v := 46) (f := Instr.if_icmp .ge) sX8_waysSeen_35 rfl op_162 rfl rfl
theorem dX8_waysSeen_55 : decode cX8_waysSeen 55 = .ok (.iload 4, 2) := dcA (j := 20) (f := Instr.iload) sX8_waysSeen_35 rfl op_21
theorem dX8_waysSeen_57 : decode cX8_waysSeen 57 = .ok (.ifCond .eq 41, 3) := dcTp (j := 22) (v := 41) (f := Instr.ifCond .eq) sX8_waysSeen_35 rfl op_153 rfl rfl
theorem dX8_waysSeen_60 : decode cX8_waysSeen 60 = .ok (.aload_n 0, 1) := dc0 (j := 25) sX8_waysSeen_35 rfl op_42
theorem dX8_waysSeen_61 : decode cX8_waysSeen 61 = .ok (.iload 5, 2) := dcA (j := 26) (f := Instr.iload) sX8_waysSeen_35 rfl op_21
theorem dX8_waysSeen_63 : decode cX8_waysSeen 63 = .ok (.iload_n 3, 1) := dc0 (j := 28) sX8_waysSeen_35 rfl op_29
theorem dX8_waysSeen_64 : decode cX8_waysSeen 64 = .ok (.iconst 0, 1) := dc0 (j := 29) sX8_waysSeen_35 rfl op_3
theorem dX8_waysSeen_65 : decode cX8_waysSeen 65 = .ok (.invokevirtual 170, 3) := dcB (j := 30) (f := Instr.invokevirtual) sX8_waysSeen_35 rfl op_182 rfl
theorem dX8_waysSeen_68 : decode cX8_waysSeen 68 = .ok (.i2l, 1) := dc0 (j := 33) sX8_waysSeen_35 rfl op_133
theorem dX8_waysSeen_69 : decode cX8_waysSeen 69 = .ok (.aload_n 0, 1) := dc0 (j := 34) sX8_waysSeen_35 rfl op_42
theorem sX8_waysSeen_70 : sgm cX8_waysSeen 70 [180, 0, 61, 16, 40, 27, 104, 21, 5, 96, 47, 148, 154, 0, 7, 4, 167, 0, 4, 3, 54, 4, 132, 5, 1, 167, 255, 205, 21, 4, 154, 0, 6, 167, 0, 28] := by decide +kernel
theorem dX8_waysSeen_70 : decode cX8_waysSeen 70 = .ok (.getfield 61, 3) := dcB (j := 0) (f := Instr.getfield) sX8_waysSeen_70 rfl op_180 rfl
theorem dX8_waysSeen_73 : decode cX8_waysSeen 73 = .ok (.bipush 40, 2) := dcSp (j := 3) (a := 40) (f := Instr.bipush) sX8_waysSeen_70 rfl op_16 rfl
theorem dX8_waysSeen_75 : decode cX8_waysSeen 75 = .ok (.iload_n 1, 1) := dc0 (j := 5) sX8_waysSeen_70 rfl op_27
theorem dX8_waysSeen_76 : decode cX8_waysSeen 76 = .ok (.imul, 1) := dc0 (j := 6) sX8_waysSeen_70 rfl op_104
theorem dX8_waysSeen_77 : decode cX8_waysSeen 77 = .ok (.iload 5, 2) := dcA (j := 7) (f := Instr.iload) sX8_waysSeen_70 rfl op_21
theorem dX8_waysSeen_79 : decode cX8_waysSeen 79 = .ok (.iadd, 1) := dc0 (j := 9) sX8_waysSeen_70 rfl op_96
theorem dX8_waysSeen_80 : decode cX8_waysSeen 80 = .ok (.laload, 1) := dc0 (j := 10) sX8_waysSeen_70 rfl op_47
theorem dX8_waysSeen_81 : decode cX8_waysSeen 81 = .ok (.lcmp, 1) := dc0 (j := 11) sX8_waysSeen_70 rfl op_148
theorem dX8_waysSeen_82 : decode cX8_waysSeen 82 = .ok (.ifCond .ne 7, 3) := dcTp (j := 12) (v := 7) (f := Instr.ifCond .ne) sX8_waysSeen_70 rfl op_154 rfl rfl
theorem dX8_waysSeen_85 : decode cX8_waysSeen 85 = .ok (.iconst 1, 1) := dc0 (j := 15) sX8_waysSeen_70 rfl op_4
theorem dX8_waysSeen_86 : decode cX8_waysSeen 86 = .ok (.goto 4, 3) := dcTp (j := 16) (v := 4) (f := Instr.goto) sX8_waysSeen_70 rfl op_167 rfl rfl
theorem dX8_waysSeen_89 : decode cX8_waysSeen 89 = .ok (.iconst 0, 1) := dc0 (j := 19) sX8_waysSeen_70 rfl op_3
theorem dX8_waysSeen_90 : decode cX8_waysSeen 90 = .ok (.istore 4, 2) := dcA (j := 20) (f := Instr.istore) sX8_waysSeen_70 rfl op_54
theorem dX8_waysSeen_92 : decode cX8_waysSeen 92 = .ok (.iinc 5 1, 3) := dcIp (j := 22) sX8_waysSeen_70 rfl op_132 rfl
theorem dX8_waysSeen_95 : decode cX8_waysSeen 95 = .ok (.goto (-51), 3) := dcTn (j := 25) (v := 51) (f := Instr.goto) sX8_waysSeen_70 rfl op_167 rfl rfl rfl
theorem dX8_waysSeen_98 : decode cX8_waysSeen 98 = .ok (.iload 4, 2) := dcA (j := 28) (f := Instr.iload) sX8_waysSeen_70 rfl op_21
theorem dX8_waysSeen_100 : decode cX8_waysSeen 100 = .ok (.ifCond .ne 6, 3) := dcTp (j := 30) (v := 6) (f := Instr.ifCond .ne) sX8_waysSeen_70 rfl op_154 rfl rfl
theorem dX8_waysSeen_103 : decode cX8_waysSeen 103 = .ok (.goto 28, 3) := dcTp (j := 33) (v := 28) (f := Instr.goto) sX8_waysSeen_70 rfl op_167 rfl rfl
theorem sX8_waysSeen_106 : sgm cX8_waysSeen 106 [132, 2, 1, 42, 89, 180, 1, 26, 29, 126, 181, 1, 26, 42, 89, 180, 1, 29, 29, 2, 130, 126, 181, 1, 29, 132, 3, 1, 167, 255, 148, 28, 172] := by decide +kernel
theorem dX8_waysSeen_106 : decode cX8_waysSeen 106 = .ok (.iinc 2 1, 3) := dcIp (j := 0) sX8_waysSeen_106 rfl op_132 rfl
theorem dX8_waysSeen_109 : decode cX8_waysSeen 109 = .ok (.aload_n 0, 1) := dc0 (j := 3) sX8_waysSeen_106 rfl op_42
theorem dX8_waysSeen_110 : decode cX8_waysSeen 110 = .ok (.dup, 1) := dc0 (j := 4) sX8_waysSeen_106 rfl op_89
theorem dX8_waysSeen_111 : decode cX8_waysSeen 111 = .ok (.getfield 282, 3) := dcB (j := 5) (f := Instr.getfield) sX8_waysSeen_106 rfl op_180 rfl
theorem dX8_waysSeen_114 : decode cX8_waysSeen 114 = .ok (.iload_n 3, 1) := dc0 (j := 8) sX8_waysSeen_106 rfl op_29
theorem dX8_waysSeen_115 : decode cX8_waysSeen 115 = .ok (.iand, 1) := dc0 (j := 9) sX8_waysSeen_106 rfl op_126
theorem dX8_waysSeen_116 : decode cX8_waysSeen 116 = .ok (.putfield 282, 3) := dcB (j := 10) (f := Instr.putfield) sX8_waysSeen_106 rfl op_181 rfl
theorem dX8_waysSeen_119 : decode cX8_waysSeen 119 = .ok (.aload_n 0, 1) := dc0 (j := 13) sX8_waysSeen_106 rfl op_42
theorem dX8_waysSeen_120 : decode cX8_waysSeen 120 = .ok (.dup, 1) := dc0 (j := 14) sX8_waysSeen_106 rfl op_89
theorem dX8_waysSeen_121 : decode cX8_waysSeen 121 = .ok (.getfield 285, 3) := dcB (j := 15) (f := Instr.getfield) sX8_waysSeen_106 rfl op_180 rfl
theorem dX8_waysSeen_124 : decode cX8_waysSeen 124 = .ok (.iload_n 3, 1) := dc0 (j := 18) sX8_waysSeen_106 rfl op_29
theorem dX8_waysSeen_125 : decode cX8_waysSeen 125 = .ok (.iconst (-1), 1) := dc0 (j := 19) sX8_waysSeen_106 rfl op_2
theorem dX8_waysSeen_126 : decode cX8_waysSeen 126 = .ok (.ixor, 1) := dc0 (j := 20) sX8_waysSeen_106 rfl op_130
theorem dX8_waysSeen_127 : decode cX8_waysSeen 127 = .ok (.iand, 1) := dc0 (j := 21) sX8_waysSeen_106 rfl op_126
theorem dX8_waysSeen_128 : decode cX8_waysSeen 128 = .ok (.putfield 285, 3) := dcB (j := 22) (f := Instr.putfield) sX8_waysSeen_106 rfl op_181 rfl
theorem dX8_waysSeen_131 : decode cX8_waysSeen 131 = .ok (.iinc 3 1, 3) := dcIp (j := 25) sX8_waysSeen_106 rfl op_132 rfl
theorem dX8_waysSeen_134 : decode cX8_waysSeen 134 = .ok (.goto (-108), 3) := dcTn (j := 28) (v := 108) (f := Instr.goto) sX8_waysSeen_106 rfl op_167 rfl rfl rfl
theorem dX8_waysSeen_137 : decode cX8_waysSeen 137 = .ok (.iload_n 2, 1) := dc0 (j := 31) sX8_waysSeen_106 rfl op_28
theorem dX8_waysSeen_138 : decode cX8_waysSeen 138 = .ok (.ireturn, 1) := dc0 (j := 32) sX8_waysSeen_106 rfl op_172
theorem sX8_refusesSeen_0 : sgm cX8_refusesSeen 0 [27, 133, 9, 20, 0, 196, 184, 0, 124, 154, 0, 6, 16, 254, 172, 42, 180, 0, 55, 27, 46, 2, 160, 0, 6, 16, 250, 172, 42, 180, 0, 58, 27, 46, 42] := by decide +kernel
theorem dX8_refusesSeen_0 : decode cX8_refusesSeen 0 = .ok (.iload_n 1, 1) := dc0 (j := 0) sX8_refusesSeen_0 rfl op_27
theorem dX8_refusesSeen_1 : decode cX8_refusesSeen 1 = .ok (.i2l, 1) := dc0 (j := 1) sX8_refusesSeen_0 rfl op_133
theorem dX8_refusesSeen_2 : decode cX8_refusesSeen 2 = .ok (.lconst 0, 1) := dc0 (j := 2) sX8_refusesSeen_0 rfl op_9
theorem dX8_refusesSeen_3 : decode cX8_refusesSeen 3 = .ok (.ldc2_w 196, 3) := dcB (j := 3) (f := Instr.ldc2_w) sX8_refusesSeen_0 rfl op_20 rfl
theorem dX8_refusesSeen_6 : decode cX8_refusesSeen 6 = .ok (.invokestatic 124, 3) := dcB (j := 6) (f := Instr.invokestatic) sX8_refusesSeen_0 rfl op_184 rfl
theorem dX8_refusesSeen_9 : decode cX8_refusesSeen 9 = .ok (.ifCond .ne 6, 3) := dcTp (j := 9) (v := 6) (f := Instr.ifCond .ne) sX8_refusesSeen_0 rfl op_154 rfl rfl
theorem dX8_refusesSeen_12 : decode cX8_refusesSeen 12 = .ok (.bipush (-2), 2) := dcSn (j := 12) (v := 2) (f := Instr.bipush) sX8_refusesSeen_0 rfl op_16 rfl rfl rfl
theorem dX8_refusesSeen_14 : decode cX8_refusesSeen 14 = .ok (.ireturn, 1) := dc0 (j := 14) sX8_refusesSeen_0 rfl op_172
theorem dX8_refusesSeen_15 : decode cX8_refusesSeen 15 = .ok (.aload_n 0, 1) := dc0 (j := 15) sX8_refusesSeen_0 rfl op_42
theorem dX8_refusesSeen_16 : decode cX8_refusesSeen 16 = .ok (.getfield 55, 3) := dcB (j := 16) (f := Instr.getfield) sX8_refusesSeen_0 rfl op_180 rfl
theorem dX8_refusesSeen_19 : decode cX8_refusesSeen 19 = .ok (.iload_n 1, 1) := dc0 (j := 19) sX8_refusesSeen_0 rfl op_27
theorem dX8_refusesSeen_20 : decode cX8_refusesSeen 20 = .ok (.iaload, 1) := dc0 (j := 20) sX8_refusesSeen_0 rfl op_46
theorem dX8_refusesSeen_21 : decode cX8_refusesSeen 21 = .ok (.iconst (-1), 1) := dc0 (j := 21) sX8_refusesSeen_0 rfl op_2
theorem dX8_refusesSeen_22 : decode cX8_refusesSeen 22 = .ok (.if_icmp .ne 6, 3) := dcTp (j := 22) (v := 6) (f := Instr.if_icmp .ne) sX8_refusesSeen_0 rfl op_160 rfl rfl
theorem dX8_refusesSeen_25 : decode cX8_refusesSeen 25 = .ok (.bipush (-6), 2) := dcSn (j := 25) (v := 6) (f := Instr.bipush) sX8_refusesSeen_0 rfl op_16 rfl rfl rfl
theorem dX8_refusesSeen_27 : decode cX8_refusesSeen 27 = .ok (.ireturn, 1) := dc0 (j := 27) sX8_refusesSeen_0 rfl op_172
theorem dX8_refusesSeen_28 : decode cX8_refusesSeen 28 = .ok (.aload_n 0, 1) := dc0 (j := 28) sX8_refusesSeen_0 rfl op_42
theorem dX8_refusesSeen_29 : decode cX8_refusesSeen 29 = .ok (.getfield 58, 3) := dcB (j := 29) (f := Instr.getfield) sX8_refusesSeen_0 rfl op_180 rfl
theorem dX8_refusesSeen_32 : decode cX8_refusesSeen 32 = .ok (.iload_n 1, 1) := dc0 (j := 32) sX8_refusesSeen_0 rfl op_27
theorem dX8_refusesSeen_33 : decode cX8_refusesSeen 33 = .ok (.iaload, 1) := dc0 (j := 33) sX8_refusesSeen_0 rfl op_46
theorem dX8_refusesSeen_34 : decode cX8_refusesSeen 34 = .ok (.aload_n 0, 1) := dc0 (j := 34) sX8_refusesSeen_0 rfl op_42
theorem sX8_refusesSeen_35 : sgm cX8_refusesSeen 35 [180, 0, 13, 3, 46, 160, 0, 7, 3, 167, 0, 5, 16, 249, 172] := by decide +kernel
theorem dX8_refusesSeen_35 : decode cX8_refusesSeen 35 = .ok (.getfield 13, 3) := dcB (j := 0) (f := Instr.getfield) sX8_refusesSeen_35 rfl op_180 rfl
theorem dX8_refusesSeen_38 : decode cX8_refusesSeen 38 = .ok (.iconst 0, 1) := dc0 (j := 3) sX8_refusesSeen_35 rfl op_3
theorem dX8_refusesSeen_39 : decode cX8_refusesSeen 39 = .ok (.iaload, 1) := dc0 (j := 4) sX8_refusesSeen_35 rfl op_46
theorem dX8_refusesSeen_40 : decode cX8_refusesSeen 40 = .ok (.if_icmp .ne 7, 3) := dcTp (j := 5) (v := 7) (f := Instr.if_icmp .ne) sX8_refusesSeen_35 rfl op_160 rfl rfl
theorem dX8_refusesSeen_43 : decode cX8_refusesSeen 43 = .ok (.iconst 0, 1) := dc0 (j := 8) sX8_refusesSeen_35 rfl op_3
theorem dX8_refusesSeen_44 : decode cX8_refusesSeen 44 = .ok (.goto 5, 3) := dcTp (j := 9) (v := 5) (f := Instr.goto) sX8_refusesSeen_35 rfl op_167 rfl rfl
theorem dX8_refusesSeen_47 : decode cX8_refusesSeen 47 = .ok (.bipush (-7), 2) := dcSn (j := 12) (v := 7) (f := Instr.bipush) sX8_refusesSeen_35 rfl op_16 rfl rfl rfl
theorem dX8_refusesSeen_49 : decode cX8_refusesSeen 49 = .ok (.ireturn, 1) := dc0 (j := 14) sX8_refusesSeen_35 rfl op_172
theorem sX8_seen_0 : sgm cX8_seen 0 [42, 3, 181, 0, 1, 42, 27, 182, 1, 32, 61, 28, 153, 0, 7, 28, 167, 0, 8, 42, 27, 182, 1, 35, 172] := by decide +kernel
theorem dX8_seen_0 : decode cX8_seen 0 = .ok (.aload_n 0, 1) := dc0 (j := 0) sX8_seen_0 rfl op_42
theorem dX8_seen_1 : decode cX8_seen 1 = .ok (.iconst 0, 1) := dc0 (j := 1) sX8_seen_0 rfl op_3
theorem dX8_seen_2 : decode cX8_seen 2 = .ok (.putfield 1, 3) := dcB (j := 2) (f := Instr.putfield) sX8_seen_0 rfl op_181 rfl
theorem dX8_seen_5 : decode cX8_seen 5 = .ok (.aload_n 0, 1) := dc0 (j := 5) sX8_seen_0 rfl op_42
theorem dX8_seen_6 : decode cX8_seen 6 = .ok (.iload_n 1, 1) := dc0 (j := 6) sX8_seen_0 rfl op_27
theorem dX8_seen_7 : decode cX8_seen 7 = .ok (.invokevirtual 288, 3) := dcB (j := 7) (f := Instr.invokevirtual) sX8_seen_0 rfl op_182 rfl
theorem dX8_seen_10 : decode cX8_seen 10 = .ok (.istore_n 2, 1) := dc0 (j := 10) sX8_seen_0 rfl op_61
theorem dX8_seen_11 : decode cX8_seen 11 = .ok (.iload_n 2, 1) := dc0 (j := 11) sX8_seen_0 rfl op_28
theorem dX8_seen_12 : decode cX8_seen 12 = .ok (.ifCond .eq 7, 3) := dcTp (j := 12) (v := 7) (f := Instr.ifCond .eq) sX8_seen_0 rfl op_153 rfl rfl
theorem dX8_seen_15 : decode cX8_seen 15 = .ok (.iload_n 2, 1) := dc0 (j := 15) sX8_seen_0 rfl op_28
theorem dX8_seen_16 : decode cX8_seen 16 = .ok (.goto 8, 3) := dcTp (j := 16) (v := 8) (f := Instr.goto) sX8_seen_0 rfl op_167 rfl rfl
theorem dX8_seen_19 : decode cX8_seen 19 = .ok (.aload_n 0, 1) := dc0 (j := 19) sX8_seen_0 rfl op_42
theorem dX8_seen_20 : decode cX8_seen 20 = .ok (.iload_n 1, 1) := dc0 (j := 20) sX8_seen_0 rfl op_27
theorem dX8_seen_21 : decode cX8_seen 21 = .ok (.invokevirtual 291, 3) := dcB (j := 21) (f := Instr.invokevirtual) sX8_seen_0 rfl op_182 rfl
theorem dX8_seen_24 : decode cX8_seen 24 = .ok (.ireturn, 1) := dc0 (j := 24) sX8_seen_0 rfl op_172
theorem sX8_sure_0 : sgm cX8_sure 0 [42, 3, 181, 0, 1, 42, 27, 182, 1, 32, 62, 29, 153, 0, 5, 29, 172, 42, 27, 182, 1, 35, 154, 0, 7, 3, 167, 0, 18, 28, 153, 0, 10, 42] := by decide +kernel
theorem dX8_sure_0 : decode cX8_sure 0 = .ok (.aload_n 0, 1) := dc0 (j := 0) sX8_sure_0 rfl op_42
theorem dX8_sure_1 : decode cX8_sure 1 = .ok (.iconst 0, 1) := dc0 (j := 1) sX8_sure_0 rfl op_3
theorem dX8_sure_2 : decode cX8_sure 2 = .ok (.putfield 1, 3) := dcB (j := 2) (f := Instr.putfield) sX8_sure_0 rfl op_181 rfl
theorem dX8_sure_5 : decode cX8_sure 5 = .ok (.aload_n 0, 1) := dc0 (j := 5) sX8_sure_0 rfl op_42
theorem dX8_sure_6 : decode cX8_sure 6 = .ok (.iload_n 1, 1) := dc0 (j := 6) sX8_sure_0 rfl op_27
theorem dX8_sure_7 : decode cX8_sure 7 = .ok (.invokevirtual 288, 3) := dcB (j := 7) (f := Instr.invokevirtual) sX8_sure_0 rfl op_182 rfl
theorem dX8_sure_10 : decode cX8_sure 10 = .ok (.istore_n 3, 1) := dc0 (j := 10) sX8_sure_0 rfl op_62
theorem dX8_sure_11 : decode cX8_sure 11 = .ok (.iload_n 3, 1) := dc0 (j := 11) sX8_sure_0 rfl op_29
theorem dX8_sure_12 : decode cX8_sure 12 = .ok (.ifCond .eq 5, 3) := dcTp (j := 12) (v := 5) (f := Instr.ifCond .eq) sX8_sure_0 rfl op_153 rfl rfl
theorem dX8_sure_15 : decode cX8_sure 15 = .ok (.iload_n 3, 1) := dc0 (j := 15) sX8_sure_0 rfl op_29
theorem dX8_sure_16 : decode cX8_sure 16 = .ok (.ireturn, 1) := dc0 (j := 16) sX8_sure_0 rfl op_172
theorem dX8_sure_17 : decode cX8_sure 17 = .ok (.aload_n 0, 1) := dc0 (j := 17) sX8_sure_0 rfl op_42
theorem dX8_sure_18 : decode cX8_sure 18 = .ok (.iload_n 1, 1) := dc0 (j := 18) sX8_sure_0 rfl op_27
theorem dX8_sure_19 : decode cX8_sure 19 = .ok (.invokevirtual 291, 3) := dcB (j := 19) (f := Instr.invokevirtual) sX8_sure_0 rfl op_182 rfl
theorem dX8_sure_22 : decode cX8_sure 22 = .ok (.ifCond .ne 7, 3) := dcTp (j := 22) (v := 7) (f := Instr.ifCond .ne) sX8_sure_0 rfl op_154 rfl rfl
theorem dX8_sure_25 : decode cX8_sure 25 = .ok (.iconst 0, 1) := dc0 (j := 25) sX8_sure_0 rfl op_3
theorem dX8_sure_26 : decode cX8_sure 26 = .ok (.goto 18, 3) := dcTp (j := 26) (v := 18) (f := Instr.goto) sX8_sure_0 rfl op_167 rfl rfl
theorem dX8_sure_29 : decode cX8_sure 29 = .ok (.iload_n 2, 1) := dc0 (j := 29) sX8_sure_0 rfl op_28
theorem dX8_sure_30 : decode cX8_sure 30 = .ok (.ifCond .eq 10, 3) := dcTp (j := 30) (v := 10) (f := Instr.ifCond .eq) sX8_sure_0 rfl op_153 rfl rfl
theorem dX8_sure_33 : decode cX8_sure 33 = .ok (.aload_n 0, 1) := dc0 (j := 33) sX8_sure_0 rfl op_42
theorem sX8_sure_34 : sgm cX8_sure 34 [180, 1, 26, 167, 0, 7, 42, 180, 1, 29, 172] := by decide +kernel
theorem dX8_sure_34 : decode cX8_sure 34 = .ok (.getfield 282, 3) := dcB (j := 0) (f := Instr.getfield) sX8_sure_34 rfl op_180 rfl
theorem dX8_sure_37 : decode cX8_sure 37 = .ok (.goto 7, 3) := dcTp (j := 3) (v := 7) (f := Instr.goto) sX8_sure_34 rfl op_167 rfl rfl
theorem dX8_sure_40 : decode cX8_sure 40 = .ok (.aload_n 0, 1) := dc0 (j := 6) sX8_sure_34 rfl op_42
theorem dX8_sure_41 : decode cX8_sure 41 = .ok (.getfield 285, 3) := dcB (j := 7) (f := Instr.getfield) sX8_sure_34 rfl op_180 rfl
theorem dX8_sure_44 : decode cX8_sure 44 = .ok (.ireturn, 1) := dc0 (j := 10) sX8_sure_34 rfl op_172
theorem sX8_offBy_0 : sgm cX8_offBy 0 [42, 180, 0, 13, 7, 27, 96, 46, 42, 180, 0, 13, 16, 14, 28, 96, 46, 100, 62, 29, 156, 0, 8, 29, 116, 167, 0, 4, 29, 172] := by decide +kernel
theorem dX8_offBy_0 : decode cX8_offBy 0 = .ok (.aload_n 0, 1) := dc0 (j := 0) sX8_offBy_0 rfl op_42
theorem dX8_offBy_1 : decode cX8_offBy 1 = .ok (.getfield 13, 3) := dcB (j := 1) (f := Instr.getfield) sX8_offBy_0 rfl op_180 rfl
theorem dX8_offBy_4 : decode cX8_offBy 4 = .ok (.iconst 4, 1) := dc0 (j := 4) sX8_offBy_0 rfl op_7
theorem dX8_offBy_5 : decode cX8_offBy 5 = .ok (.iload_n 1, 1) := dc0 (j := 5) sX8_offBy_0 rfl op_27
theorem dX8_offBy_6 : decode cX8_offBy 6 = .ok (.iadd, 1) := dc0 (j := 6) sX8_offBy_0 rfl op_96
theorem dX8_offBy_7 : decode cX8_offBy 7 = .ok (.iaload, 1) := dc0 (j := 7) sX8_offBy_0 rfl op_46
theorem dX8_offBy_8 : decode cX8_offBy 8 = .ok (.aload_n 0, 1) := dc0 (j := 8) sX8_offBy_0 rfl op_42
theorem dX8_offBy_9 : decode cX8_offBy 9 = .ok (.getfield 13, 3) := dcB (j := 9) (f := Instr.getfield) sX8_offBy_0 rfl op_180 rfl
theorem dX8_offBy_12 : decode cX8_offBy 12 = .ok (.bipush 14, 2) := dcSp (j := 12) (a := 14) (f := Instr.bipush) sX8_offBy_0 rfl op_16 rfl
theorem dX8_offBy_14 : decode cX8_offBy 14 = .ok (.iload_n 2, 1) := dc0 (j := 14) sX8_offBy_0 rfl op_28
theorem dX8_offBy_15 : decode cX8_offBy 15 = .ok (.iadd, 1) := dc0 (j := 15) sX8_offBy_0 rfl op_96
theorem dX8_offBy_16 : decode cX8_offBy 16 = .ok (.iaload, 1) := dc0 (j := 16) sX8_offBy_0 rfl op_46
theorem dX8_offBy_17 : decode cX8_offBy 17 = .ok (.isub, 1) := dc0 (j := 17) sX8_offBy_0 rfl op_100
theorem dX8_offBy_18 : decode cX8_offBy 18 = .ok (.istore_n 3, 1) := dc0 (j := 18) sX8_offBy_0 rfl op_62
theorem dX8_offBy_19 : decode cX8_offBy 19 = .ok (.iload_n 3, 1) := dc0 (j := 19) sX8_offBy_0 rfl op_29
theorem dX8_offBy_20 : decode cX8_offBy 20 = .ok (.ifCond .ge 8, 3) := dcTp (j := 20) (v := 8) (f := Instr.ifCond .ge) sX8_offBy_0 rfl op_156 rfl rfl
theorem dX8_offBy_23 : decode cX8_offBy 23 = .ok (.iload_n 3, 1) := dc0 (j := 23) sX8_offBy_0 rfl op_29
theorem dX8_offBy_24 : decode cX8_offBy 24 = .ok (.ineg, 1) := dc0 (j := 24) sX8_offBy_0 rfl op_116
theorem dX8_offBy_25 : decode cX8_offBy 25 = .ok (.goto 4, 3) := dcTp (j := 25) (v := 4) (f := Instr.goto) sX8_offBy_0 rfl op_167 rfl rfl
theorem dX8_offBy_28 : decode cX8_offBy 28 = .ok (.iload_n 3, 1) := dc0 (j := 28) sX8_offBy_0 rfl op_29
theorem dX8_offBy_29 : decode cX8_offBy 29 = .ok (.ireturn, 1) := dc0 (j := 29) sX8_offBy_0 rfl op_172
theorem sX8_isOneRing_0 : sgm cX8_isOneRing 0 [3, 60, 3, 61, 42, 180, 0, 49, 27, 46, 60, 132, 2, 1, 27, 154, 255, 245, 28, 42, 180, 0, 13, 3, 46, 160, 0, 7, 4, 167, 0, 4, 3, 172] := by decide +kernel
theorem dX8_isOneRing_0 : decode cX8_isOneRing 0 = .ok (.iconst 0, 1) := dc0 (j := 0) sX8_isOneRing_0 rfl op_3
theorem dX8_isOneRing_1 : decode cX8_isOneRing 1 = .ok (.istore_n 1, 1) := dc0 (j := 1) sX8_isOneRing_0 rfl op_60
theorem dX8_isOneRing_2 : decode cX8_isOneRing 2 = .ok (.iconst 0, 1) := dc0 (j := 2) sX8_isOneRing_0 rfl op_3
theorem dX8_isOneRing_3 : decode cX8_isOneRing 3 = .ok (.istore_n 2, 1) := dc0 (j := 3) sX8_isOneRing_0 rfl op_61
theorem dX8_isOneRing_4 : decode cX8_isOneRing 4 = .ok (.aload_n 0, 1) := dc0 (j := 4) sX8_isOneRing_0 rfl op_42
theorem dX8_isOneRing_5 : decode cX8_isOneRing 5 = .ok (.getfield 49, 3) := dcB (j := 5) (f := Instr.getfield) sX8_isOneRing_0 rfl op_180 rfl
theorem dX8_isOneRing_8 : decode cX8_isOneRing 8 = .ok (.iload_n 1, 1) := dc0 (j := 8) sX8_isOneRing_0 rfl op_27
theorem dX8_isOneRing_9 : decode cX8_isOneRing 9 = .ok (.iaload, 1) := dc0 (j := 9) sX8_isOneRing_0 rfl op_46
theorem dX8_isOneRing_10 : decode cX8_isOneRing 10 = .ok (.istore_n 1, 1) := dc0 (j := 10) sX8_isOneRing_0 rfl op_60
theorem dX8_isOneRing_11 : decode cX8_isOneRing 11 = .ok (.iinc 2 1, 3) := dcIp (j := 11) sX8_isOneRing_0 rfl op_132 rfl
theorem dX8_isOneRing_14 : decode cX8_isOneRing 14 = .ok (.iload_n 1, 1) := dc0 (j := 14) sX8_isOneRing_0 rfl op_27
theorem dX8_isOneRing_15 : decode cX8_isOneRing 15 = .ok (.ifCond .ne (-11), 3) := dcTn (j := 15) (v := 11) (f := Instr.ifCond .ne) sX8_isOneRing_0 rfl op_154 rfl rfl rfl
theorem dX8_isOneRing_18 : decode cX8_isOneRing 18 = .ok (.iload_n 2, 1) := dc0 (j := 18) sX8_isOneRing_0 rfl op_28
theorem dX8_isOneRing_19 : decode cX8_isOneRing 19 = .ok (.aload_n 0, 1) := dc0 (j := 19) sX8_isOneRing_0 rfl op_42
theorem dX8_isOneRing_20 : decode cX8_isOneRing 20 = .ok (.getfield 13, 3) := dcB (j := 20) (f := Instr.getfield) sX8_isOneRing_0 rfl op_180 rfl
theorem dX8_isOneRing_23 : decode cX8_isOneRing 23 = .ok (.iconst 0, 1) := dc0 (j := 23) sX8_isOneRing_0 rfl op_3
theorem dX8_isOneRing_24 : decode cX8_isOneRing 24 = .ok (.iaload, 1) := dc0 (j := 24) sX8_isOneRing_0 rfl op_46
theorem dX8_isOneRing_25 : decode cX8_isOneRing 25 = .ok (.if_icmp .ne 7, 3) := dcTp (j := 25) (v := 7) (f := Instr.if_icmp .ne) sX8_isOneRing_0 rfl op_160 rfl rfl
theorem dX8_isOneRing_28 : decode cX8_isOneRing 28 = .ok (.iconst 1, 1) := dc0 (j := 28) sX8_isOneRing_0 rfl op_4
theorem dX8_isOneRing_29 : decode cX8_isOneRing 29 = .ok (.goto 4, 3) := dcTp (j := 29) (v := 4) (f := Instr.goto) sX8_isOneRing_0 rfl op_167 rfl rfl
theorem dX8_isOneRing_32 : decode cX8_isOneRing 32 = .ok (.iconst 0, 1) := dc0 (j := 32) sX8_isOneRing_0 rfl op_3
theorem dX8_isOneRing_33 : decode cX8_isOneRing 33 = .ok (.ireturn, 1) := dc0 (j := 33) sX8_isOneRing_0 rfl op_172
theorem sX8_lays_0 : sgm cX8_lays 0 [27, 42, 180, 0, 13, 3, 46, 160, 0, 62, 42, 182, 1, 38, 153, 0, 19, 42, 180, 1, 42, 2, 159, 0, 12, 29, 42, 180, 1, 42, 161, 0, 4, 177, 42, 29] := by decide +kernel
theorem dX8_lays_0 : decode cX8_lays 0 = .ok (.iload_n 1, 1) := dc0 (j := 0) sX8_lays_0 rfl op_27
theorem dX8_lays_1 : decode cX8_lays 1 = .ok (.aload_n 0, 1) := dc0 (j := 1) sX8_lays_0 rfl op_42
theorem dX8_lays_2 : decode cX8_lays 2 = .ok (.getfield 13, 3) := dcB (j := 2) (f := Instr.getfield) sX8_lays_0 rfl op_180 rfl
theorem dX8_lays_5 : decode cX8_lays 5 = .ok (.iconst 0, 1) := dc0 (j := 5) sX8_lays_0 rfl op_3
theorem dX8_lays_6 : decode cX8_lays 6 = .ok (.iaload, 1) := dc0 (j := 6) sX8_lays_0 rfl op_46
theorem dX8_lays_7 : decode cX8_lays 7 = .ok (.if_icmp .ne 62, 3) := dcTp (j := 7) (v := 62) (f := Instr.if_icmp .ne) sX8_lays_0 rfl op_160 rfl rfl
theorem dX8_lays_10 : decode cX8_lays 10 = .ok (.aload_n 0, 1) := dc0 (j := 10) sX8_lays_0 rfl op_42
theorem dX8_lays_11 : decode cX8_lays 11 = .ok (.invokevirtual 294, 3) := dcB (j := 11) (f := Instr.invokevirtual) sX8_lays_0 rfl op_182 rfl
theorem dX8_lays_14 : decode cX8_lays 14 = .ok (.ifCond .eq 19, 3) := dcTp (j := 14) (v := 19) (f := Instr.ifCond .eq) sX8_lays_0 rfl op_153 rfl rfl
theorem dX8_lays_17 : decode cX8_lays 17 = .ok (.aload_n 0, 1) := dc0 (j := 17) sX8_lays_0 rfl op_42
theorem dX8_lays_18 : decode cX8_lays 18 = .ok (.getfield 298, 3) := dcB (j := 18) (f := Instr.getfield) sX8_lays_0 rfl op_180 rfl
theorem dX8_lays_21 : decode cX8_lays 21 = .ok (.iconst (-1), 1) := dc0 (j := 21) sX8_lays_0 rfl op_2
theorem dX8_lays_22 : decode cX8_lays 22 = .ok (.if_icmp .eq 12, 3) := dcTp (j := 22) (v := 12) (f := Instr.if_icmp .eq) sX8_lays_0 rfl op_159 rfl rfl
theorem dX8_lays_25 : decode cX8_lays 25 = .ok (.iload_n 3, 1) := dc0 (j := 25) sX8_lays_0 rfl op_29
theorem dX8_lays_26 : decode cX8_lays 26 = .ok (.aload_n 0, 1) := dc0 (j := 26) sX8_lays_0 rfl op_42
theorem dX8_lays_27 : decode cX8_lays 27 = .ok (.getfield 298, 3) := dcB (j := 27) (f := Instr.getfield) sX8_lays_0 rfl op_180 rfl
theorem dX8_lays_30 : decode cX8_lays 30 = .ok (.if_icmp .lt 4, 3) := dcTp (j := 30) (v := 4) (f := Instr.if_icmp .lt) sX8_lays_0 rfl op_161 rfl rfl
theorem dX8_lays_33 : decode cX8_lays 33 = .ok (.return_, 1) := dc0 (j := 33) sX8_lays_0 rfl op_177
theorem dX8_lays_34 : decode cX8_lays 34 = .ok (.aload_n 0, 1) := dc0 (j := 34) sX8_lays_0 rfl op_42
theorem dX8_lays_35 : decode cX8_lays 35 = .ok (.iload_n 3, 1) := dc0 (j := 35) sX8_lays_0 rfl op_29
theorem sX8_lays_36 : sgm cX8_lays 36 [181, 1, 42, 3, 54, 4, 21, 4, 27, 162, 0, 23, 42, 180, 0, 52, 21, 4, 42, 180, 0, 49, 21, 4, 46, 79, 132, 4, 1, 167, 255, 233, 177, 3, 54, 4] := by decide +kernel
theorem dX8_lays_36 : decode cX8_lays 36 = .ok (.putfield 298, 3) := dcB (j := 0) (f := Instr.putfield) sX8_lays_36 rfl op_181 rfl
theorem dX8_lays_39 : decode cX8_lays 39 = .ok (.iconst 0, 1) := dc0 (j := 3) sX8_lays_36 rfl op_3
theorem dX8_lays_40 : decode cX8_lays 40 = .ok (.istore 4, 2) := dcA (j := 4) (f := Instr.istore) sX8_lays_36 rfl op_54
theorem dX8_lays_42 : decode cX8_lays 42 = .ok (.iload 4, 2) := dcA (j := 6) (f := Instr.iload) sX8_lays_36 rfl op_21
theorem dX8_lays_44 : decode cX8_lays 44 = .ok (.iload_n 1, 1) := dc0 (j := 8) sX8_lays_36 rfl op_27
theorem dX8_lays_45 : decode cX8_lays 45 = .ok (.if_icmp .ge 23, 3) := dcTp (j := 9) (v := 23) (f := Instr.if_icmp .ge) sX8_lays_36 rfl op_162 rfl rfl
theorem dX8_lays_48 : decode cX8_lays 48 = .ok (.aload_n 0, 1) := dc0 (j := 12) sX8_lays_36 rfl op_42
theorem dX8_lays_49 : decode cX8_lays 49 = .ok (.getfield 52, 3) := dcB (j := 13) (f := Instr.getfield) sX8_lays_36 rfl op_180 rfl
theorem dX8_lays_52 : decode cX8_lays 52 = .ok (.iload 4, 2) := dcA (j := 16) (f := Instr.iload) sX8_lays_36 rfl op_21
theorem dX8_lays_54 : decode cX8_lays 54 = .ok (.aload_n 0, 1) := dc0 (j := 18) sX8_lays_36 rfl op_42
theorem dX8_lays_55 : decode cX8_lays 55 = .ok (.getfield 49, 3) := dcB (j := 19) (f := Instr.getfield) sX8_lays_36 rfl op_180 rfl
theorem dX8_lays_58 : decode cX8_lays 58 = .ok (.iload 4, 2) := dcA (j := 22) (f := Instr.iload) sX8_lays_36 rfl op_21
theorem dX8_lays_60 : decode cX8_lays 60 = .ok (.iaload, 1) := dc0 (j := 24) sX8_lays_36 rfl op_46
theorem dX8_lays_61 : decode cX8_lays 61 = .ok (.iastore, 1) := dc0 (j := 25) sX8_lays_36 rfl op_79
theorem dX8_lays_62 : decode cX8_lays 62 = .ok (.iinc 4 1, 3) := dcIp (j := 26) sX8_lays_36 rfl op_132 rfl
theorem dX8_lays_65 : decode cX8_lays 65 = .ok (.goto (-23), 3) := dcTn (j := 29) (v := 23) (f := Instr.goto) sX8_lays_36 rfl op_167 rfl rfl rfl
theorem dX8_lays_68 : decode cX8_lays 68 = .ok (.return_, 1) := dc0 (j := 32) sX8_lays_36 rfl op_177
theorem dX8_lays_69 : decode cX8_lays 69 = .ok (.iconst 0, 1) := dc0 (j := 33) sX8_lays_36 rfl op_3
theorem dX8_lays_70 : decode cX8_lays 70 = .ok (.istore 4, 2) := dcA (j := 34) (f := Instr.istore) sX8_lays_36 rfl op_54
theorem sX8_lays_72 : sgm cX8_lays 72 [21, 4, 42, 180, 0, 13, 3, 46, 162, 0, 52, 28, 133, 21, 4, 184, 0, 163, 153, 0, 6, 167, 0, 33, 42, 180, 0, 49, 27, 21, 4, 79, 42, 27, 4, 96] := by decide +kernel
theorem dX8_lays_72 : decode cX8_lays 72 = .ok (.iload 4, 2) := dcA (j := 0) (f := Instr.iload) sX8_lays_72 rfl op_21
theorem dX8_lays_74 : decode cX8_lays 74 = .ok (.aload_n 0, 1) := dc0 (j := 2) sX8_lays_72 rfl op_42
theorem dX8_lays_75 : decode cX8_lays 75 = .ok (.getfield 13, 3) := dcB (j := 3) (f := Instr.getfield) sX8_lays_72 rfl op_180 rfl
theorem dX8_lays_78 : decode cX8_lays 78 = .ok (.iconst 0, 1) := dc0 (j := 6) sX8_lays_72 rfl op_3
theorem dX8_lays_79 : decode cX8_lays 79 = .ok (.iaload, 1) := dc0 (j := 7) sX8_lays_72 rfl op_46
theorem dX8_lays_80 : decode cX8_lays 80 = .ok (.if_icmp .ge 52, 3) := dcTp (j := 8) (v := 52) (f := Instr.if_icmp .ge) sX8_lays_72 rfl op_162 rfl rfl
theorem dX8_lays_83 : decode cX8_lays 83 = .ok (.iload_n 2, 1) := dc0 (j := 11) sX8_lays_72 rfl op_28
theorem dX8_lays_84 : decode cX8_lays 84 = .ok (.i2l, 1) := dc0 (j := 12) sX8_lays_72 rfl op_133
theorem dX8_lays_85 : decode cX8_lays 85 = .ok (.iload 4, 2) := dcA (j := 13) (f := Instr.iload) sX8_lays_72 rfl op_21
theorem dX8_lays_87 : decode cX8_lays 87 = .ok (.invokestatic 163, 3) := dcB (j := 15) (f := Instr.invokestatic) sX8_lays_72 rfl op_184 rfl
theorem dX8_lays_90 : decode cX8_lays 90 = .ok (.ifCond .eq 6, 3) := dcTp (j := 18) (v := 6) (f := Instr.ifCond .eq) sX8_lays_72 rfl op_153 rfl rfl
theorem dX8_lays_93 : decode cX8_lays 93 = .ok (.goto 33, 3) := dcTp (j := 21) (v := 33) (f := Instr.goto) sX8_lays_72 rfl op_167 rfl rfl
theorem dX8_lays_96 : decode cX8_lays 96 = .ok (.aload_n 0, 1) := dc0 (j := 24) sX8_lays_72 rfl op_42
theorem dX8_lays_97 : decode cX8_lays 97 = .ok (.getfield 49, 3) := dcB (j := 25) (f := Instr.getfield) sX8_lays_72 rfl op_180 rfl
theorem dX8_lays_100 : decode cX8_lays 100 = .ok (.iload_n 1, 1) := dc0 (j := 28) sX8_lays_72 rfl op_27
theorem dX8_lays_101 : decode cX8_lays 101 = .ok (.iload 4, 2) := dcA (j := 29) (f := Instr.iload) sX8_lays_72 rfl op_21
theorem dX8_lays_103 : decode cX8_lays 103 = .ok (.iastore, 1) := dc0 (j := 31) sX8_lays_72 rfl op_79
theorem dX8_lays_104 : decode cX8_lays 104 = .ok (.aload_n 0, 1) := dc0 (j := 32) sX8_lays_72 rfl op_42
theorem dX8_lays_105 : decode cX8_lays 105 = .ok (.iload_n 1, 1) := dc0 (j := 33) sX8_lays_72 rfl op_27
theorem dX8_lays_106 : decode cX8_lays 106 = .ok (.iconst 1, 1) := dc0 (j := 34) sX8_lays_72 rfl op_4
theorem dX8_lays_107 : decode cX8_lays 107 = .ok (.iadd, 1) := dc0 (j := 35) sX8_lays_72 rfl op_96
theorem sX8_lays_108 : sgm cX8_lays 108 [28, 4, 21, 4, 120, 128, 29, 42, 27, 21, 4, 182, 1, 45, 96, 182, 1, 48, 132, 4, 1, 167, 255, 199, 177] := by decide +kernel
theorem dX8_lays_108 : decode cX8_lays 108 = .ok (.iload_n 2, 1) := dc0 (j := 0) sX8_lays_108 rfl op_28
theorem dX8_lays_109 : decode cX8_lays 109 = .ok (.iconst 1, 1) := dc0 (j := 1) sX8_lays_108 rfl op_4
theorem dX8_lays_110 : decode cX8_lays 110 = .ok (.iload 4, 2) := dcA (j := 2) (f := Instr.iload) sX8_lays_108 rfl op_21
theorem dX8_lays_112 : decode cX8_lays 112 = .ok (.ishl, 1) := dc0 (j := 4) sX8_lays_108 rfl op_120
theorem dX8_lays_113 : decode cX8_lays 113 = .ok (.ior, 1) := dc0 (j := 5) sX8_lays_108 rfl op_128
theorem dX8_lays_114 : decode cX8_lays 114 = .ok (.iload_n 3, 1) := dc0 (j := 6) sX8_lays_108 rfl op_29
theorem dX8_lays_115 : decode cX8_lays 115 = .ok (.aload_n 0, 1) := dc0 (j := 7) sX8_lays_108 rfl op_42
theorem dX8_lays_116 : decode cX8_lays 116 = .ok (.iload_n 1, 1) := dc0 (j := 8) sX8_lays_108 rfl op_27
theorem dX8_lays_117 : decode cX8_lays 117 = .ok (.iload 4, 2) := dcA (j := 9) (f := Instr.iload) sX8_lays_108 rfl op_21
theorem dX8_lays_119 : decode cX8_lays 119 = .ok (.invokevirtual 301, 3) := dcB (j := 11) (f := Instr.invokevirtual) sX8_lays_108 rfl op_182 rfl
theorem dX8_lays_122 : decode cX8_lays 122 = .ok (.iadd, 1) := dc0 (j := 14) sX8_lays_108 rfl op_96
theorem dX8_lays_123 : decode cX8_lays 123 = .ok (.invokevirtual 304, 3) := dcB (j := 15) (f := Instr.invokevirtual) sX8_lays_108 rfl op_182 rfl
theorem dX8_lays_126 : decode cX8_lays 126 = .ok (.iinc 4 1, 3) := dcIp (j := 18) sX8_lays_108 rfl op_132 rfl
theorem dX8_lays_129 : decode cX8_lays 129 = .ok (.goto (-57), 3) := dcTn (j := 21) (v := 57) (f := Instr.goto) sX8_lays_108 rfl op_167 rfl rfl rfl
theorem dX8_lays_132 : decode cX8_lays 132 = .ok (.return_, 1) := dc0 (j := 24) sX8_lays_108 rfl op_177
theorem sX8_ropes_0 : sgm cX8_ropes 0 [42, 3, 181, 0, 1, 27, 153, 0, 27, 27, 133, 20, 0, 247, 16, 9, 42, 180, 0, 13, 3, 46, 96, 133, 184, 0, 124, 154, 0, 6, 16, 254, 172, 42] := by decide +kernel
theorem dX8_ropes_0 : decode cX8_ropes 0 = .ok (.aload_n 0, 1) := dc0 (j := 0) sX8_ropes_0 rfl op_42
theorem dX8_ropes_1 : decode cX8_ropes 1 = .ok (.iconst 0, 1) := dc0 (j := 1) sX8_ropes_0 rfl op_3
theorem dX8_ropes_2 : decode cX8_ropes 2 = .ok (.putfield 1, 3) := dcB (j := 2) (f := Instr.putfield) sX8_ropes_0 rfl op_181 rfl
theorem dX8_ropes_5 : decode cX8_ropes 5 = .ok (.iload_n 1, 1) := dc0 (j := 5) sX8_ropes_0 rfl op_27
theorem dX8_ropes_6 : decode cX8_ropes 6 = .ok (.ifCond .eq 27, 3) := dcTp (j := 6) (v := 27) (f := Instr.ifCond .eq) sX8_ropes_0 rfl op_153 rfl rfl
theorem dX8_ropes_9 : decode cX8_ropes 9 = .ok (.iload_n 1, 1) := dc0 (j := 9) sX8_ropes_0 rfl op_27
theorem dX8_ropes_10 : decode cX8_ropes 10 = .ok (.i2l, 1) := dc0 (j := 10) sX8_ropes_0 rfl op_133
theorem dX8_ropes_11 : decode cX8_ropes 11 = .ok (.ldc2_w 247, 3) := dcB (j := 11) (f := Instr.ldc2_w) sX8_ropes_0 rfl op_20 rfl
theorem dX8_ropes_14 : decode cX8_ropes 14 = .ok (.bipush 9, 2) := dcSp (j := 14) (a := 9) (f := Instr.bipush) sX8_ropes_0 rfl op_16 rfl
theorem dX8_ropes_16 : decode cX8_ropes 16 = .ok (.aload_n 0, 1) := dc0 (j := 16) sX8_ropes_0 rfl op_42
theorem dX8_ropes_17 : decode cX8_ropes 17 = .ok (.getfield 13, 3) := dcB (j := 17) (f := Instr.getfield) sX8_ropes_0 rfl op_180 rfl
theorem dX8_ropes_20 : decode cX8_ropes 20 = .ok (.iconst 0, 1) := dc0 (j := 20) sX8_ropes_0 rfl op_3
theorem dX8_ropes_21 : decode cX8_ropes 21 = .ok (.iaload, 1) := dc0 (j := 21) sX8_ropes_0 rfl op_46
theorem dX8_ropes_22 : decode cX8_ropes 22 = .ok (.iadd, 1) := dc0 (j := 22) sX8_ropes_0 rfl op_96
theorem dX8_ropes_23 : decode cX8_ropes 23 = .ok (.i2l, 1) := dc0 (j := 23) sX8_ropes_0 rfl op_133
theorem dX8_ropes_24 : decode cX8_ropes 24 = .ok (.invokestatic 124, 3) := dcB (j := 24) (f := Instr.invokestatic) sX8_ropes_0 rfl op_184 rfl
theorem dX8_ropes_27 : decode cX8_ropes 27 = .ok (.ifCond .ne 6, 3) := dcTp (j := 27) (v := 6) (f := Instr.ifCond .ne) sX8_ropes_0 rfl op_154 rfl rfl
theorem dX8_ropes_30 : decode cX8_ropes 30 = .ok (.bipush (-2), 2) := dcSn (j := 30) (v := 2) (f := Instr.bipush) sX8_ropes_0 rfl op_16 rfl rfl rfl
theorem dX8_ropes_32 : decode cX8_ropes 32 = .ok (.ireturn, 1) := dc0 (j := 32) sX8_ropes_0 rfl op_172
theorem dX8_ropes_33 : decode cX8_ropes 33 = .ok (.aload_n 0, 1) := dc0 (j := 33) sX8_ropes_0 rfl op_42
theorem sX8_ropes_34 : sgm cX8_ropes 34 [180, 0, 13, 3, 46, 16, 7, 164, 0, 6, 16, 252, 172, 42, 180, 0, 13, 3, 46, 154, 0, 6, 16, 251, 172, 42, 2, 181, 1, 42, 42, 3, 3, 3] := by decide +kernel
theorem dX8_ropes_34 : decode cX8_ropes 34 = .ok (.getfield 13, 3) := dcB (j := 0) (f := Instr.getfield) sX8_ropes_34 rfl op_180 rfl
theorem dX8_ropes_37 : decode cX8_ropes 37 = .ok (.iconst 0, 1) := dc0 (j := 3) sX8_ropes_34 rfl op_3
theorem dX8_ropes_38 : decode cX8_ropes 38 = .ok (.iaload, 1) := dc0 (j := 4) sX8_ropes_34 rfl op_46
theorem dX8_ropes_39 : decode cX8_ropes 39 = .ok (.bipush 7, 2) := dcSp (j := 5) (a := 7) (f := Instr.bipush) sX8_ropes_34 rfl op_16 rfl
theorem dX8_ropes_41 : decode cX8_ropes 41 = .ok (.if_icmp .le 6, 3) := dcTp (j := 7) (v := 6) (f := Instr.if_icmp .le) sX8_ropes_34 rfl op_164 rfl rfl
theorem dX8_ropes_44 : decode cX8_ropes 44 = .ok (.bipush (-4), 2) := dcSn (j := 10) (v := 4) (f := Instr.bipush) sX8_ropes_34 rfl op_16 rfl rfl rfl
theorem dX8_ropes_46 : decode cX8_ropes 46 = .ok (.ireturn, 1) := dc0 (j := 12) sX8_ropes_34 rfl op_172
theorem dX8_ropes_47 : decode cX8_ropes 47 = .ok (.aload_n 0, 1) := dc0 (j := 13) sX8_ropes_34 rfl op_42
theorem dX8_ropes_48 : decode cX8_ropes 48 = .ok (.getfield 13, 3) := dcB (j := 14) (f := Instr.getfield) sX8_ropes_34 rfl op_180 rfl
theorem dX8_ropes_51 : decode cX8_ropes 51 = .ok (.iconst 0, 1) := dc0 (j := 17) sX8_ropes_34 rfl op_3
theorem dX8_ropes_52 : decode cX8_ropes 52 = .ok (.iaload, 1) := dc0 (j := 18) sX8_ropes_34 rfl op_46
theorem dX8_ropes_53 : decode cX8_ropes 53 = .ok (.ifCond .ne 6, 3) := dcTp (j := 19) (v := 6) (f := Instr.ifCond .ne) sX8_ropes_34 rfl op_154 rfl rfl
theorem dX8_ropes_56 : decode cX8_ropes 56 = .ok (.bipush (-5), 2) := dcSn (j := 22) (v := 5) (f := Instr.bipush) sX8_ropes_34 rfl op_16 rfl rfl rfl
theorem dX8_ropes_58 : decode cX8_ropes 58 = .ok (.ireturn, 1) := dc0 (j := 24) sX8_ropes_34 rfl op_172
theorem dX8_ropes_59 : decode cX8_ropes 59 = .ok (.aload_n 0, 1) := dc0 (j := 25) sX8_ropes_34 rfl op_42
theorem dX8_ropes_60 : decode cX8_ropes 60 = .ok (.iconst (-1), 1) := dc0 (j := 26) sX8_ropes_34 rfl op_2
theorem dX8_ropes_61 : decode cX8_ropes 61 = .ok (.putfield 298, 3) := dcB (j := 27) (f := Instr.putfield) sX8_ropes_34 rfl op_181 rfl
theorem dX8_ropes_64 : decode cX8_ropes 64 = .ok (.aload_n 0, 1) := dc0 (j := 30) sX8_ropes_34 rfl op_42
theorem dX8_ropes_65 : decode cX8_ropes 65 = .ok (.iconst 0, 1) := dc0 (j := 31) sX8_ropes_34 rfl op_3
theorem dX8_ropes_66 : decode cX8_ropes 66 = .ok (.iconst 0, 1) := dc0 (j := 32) sX8_ropes_34 rfl op_3
theorem dX8_ropes_67 : decode cX8_ropes 67 = .ok (.iconst 0, 1) := dc0 (j := 33) sX8_ropes_34 rfl op_3
theorem sX8_ropes_68 : sgm cX8_ropes 68 [182, 1, 48, 27, 154, 0, 10, 42, 180, 1, 42, 167, 0, 12, 42, 180, 0, 52, 27, 16, 10, 100, 46, 172] := by decide +kernel
theorem dX8_ropes_68 : decode cX8_ropes 68 = .ok (.invokevirtual 304, 3) := dcB (j := 0) (f := Instr.invokevirtual) sX8_ropes_68 rfl op_182 rfl
theorem dX8_ropes_71 : decode cX8_ropes 71 = .ok (.iload_n 1, 1) := dc0 (j := 3) sX8_ropes_68 rfl op_27
theorem dX8_ropes_72 : decode cX8_ropes 72 = .ok (.ifCond .ne 10, 3) := dcTp (j := 4) (v := 10) (f := Instr.ifCond .ne) sX8_ropes_68 rfl op_154 rfl rfl
theorem dX8_ropes_75 : decode cX8_ropes 75 = .ok (.aload_n 0, 1) := dc0 (j := 7) sX8_ropes_68 rfl op_42
theorem dX8_ropes_76 : decode cX8_ropes 76 = .ok (.getfield 298, 3) := dcB (j := 8) (f := Instr.getfield) sX8_ropes_68 rfl op_180 rfl
theorem dX8_ropes_79 : decode cX8_ropes 79 = .ok (.goto 12, 3) := dcTp (j := 11) (v := 12) (f := Instr.goto) sX8_ropes_68 rfl op_167 rfl rfl
theorem dX8_ropes_82 : decode cX8_ropes 82 = .ok (.aload_n 0, 1) := dc0 (j := 14) sX8_ropes_68 rfl op_42
theorem dX8_ropes_83 : decode cX8_ropes 83 = .ok (.getfield 52, 3) := dcB (j := 15) (f := Instr.getfield) sX8_ropes_68 rfl op_180 rfl
theorem dX8_ropes_86 : decode cX8_ropes 86 = .ok (.iload_n 1, 1) := dc0 (j := 18) sX8_ropes_68 rfl op_27
theorem dX8_ropes_87 : decode cX8_ropes 87 = .ok (.bipush 10, 2) := dcSp (j := 19) (a := 10) (f := Instr.bipush) sX8_ropes_68 rfl op_16 rfl
theorem dX8_ropes_89 : decode cX8_ropes 89 = .ok (.isub, 1) := dc0 (j := 21) sX8_ropes_68 rfl op_100
theorem dX8_ropes_90 : decode cX8_ropes 90 = .ok (.iaload, 1) := dc0 (j := 22) sX8_ropes_68 rfl op_46
theorem dX8_ropes_91 : decode cX8_ropes 91 = .ok (.ireturn, 1) := dc0 (j := 23) sX8_ropes_68 rfl op_172
theorem sX8_lazy_0 : sgm cX8_lazy 0 [42, 3, 181, 0, 1, 42, 27, 182, 0, 148, 154, 0, 6, 16, 254, 172, 42, 28, 182, 0, 217, 62, 29, 153, 0, 7, 29, 167, 0, 20, 42, 28, 2, 2, 3] := by decide +kernel
theorem dX8_lazy_0 : decode cX8_lazy 0 = .ok (.aload_n 0, 1) := dc0 (j := 0) sX8_lazy_0 rfl op_42
theorem dX8_lazy_1 : decode cX8_lazy 1 = .ok (.iconst 0, 1) := dc0 (j := 1) sX8_lazy_0 rfl op_3
theorem dX8_lazy_2 : decode cX8_lazy 2 = .ok (.putfield 1, 3) := dcB (j := 2) (f := Instr.putfield) sX8_lazy_0 rfl op_181 rfl
theorem dX8_lazy_5 : decode cX8_lazy 5 = .ok (.aload_n 0, 1) := dc0 (j := 5) sX8_lazy_0 rfl op_42
theorem dX8_lazy_6 : decode cX8_lazy 6 = .ok (.iload_n 1, 1) := dc0 (j := 6) sX8_lazy_0 rfl op_27
theorem dX8_lazy_7 : decode cX8_lazy 7 = .ok (.invokevirtual 148, 3) := dcB (j := 7) (f := Instr.invokevirtual) sX8_lazy_0 rfl op_182 rfl
theorem dX8_lazy_10 : decode cX8_lazy 10 = .ok (.ifCond .ne 6, 3) := dcTp (j := 10) (v := 6) (f := Instr.ifCond .ne) sX8_lazy_0 rfl op_154 rfl rfl
theorem dX8_lazy_13 : decode cX8_lazy 13 = .ok (.bipush (-2), 2) := dcSn (j := 13) (v := 2) (f := Instr.bipush) sX8_lazy_0 rfl op_16 rfl rfl rfl
theorem dX8_lazy_15 : decode cX8_lazy 15 = .ok (.ireturn, 1) := dc0 (j := 15) sX8_lazy_0 rfl op_172
theorem dX8_lazy_16 : decode cX8_lazy 16 = .ok (.aload_n 0, 1) := dc0 (j := 16) sX8_lazy_0 rfl op_42
theorem dX8_lazy_17 : decode cX8_lazy 17 = .ok (.iload_n 2, 1) := dc0 (j := 17) sX8_lazy_0 rfl op_28
theorem dX8_lazy_18 : decode cX8_lazy 18 = .ok (.invokevirtual 217, 3) := dcB (j := 18) (f := Instr.invokevirtual) sX8_lazy_0 rfl op_182 rfl
theorem dX8_lazy_21 : decode cX8_lazy 21 = .ok (.istore_n 3, 1) := dc0 (j := 21) sX8_lazy_0 rfl op_62
theorem dX8_lazy_22 : decode cX8_lazy 22 = .ok (.iload_n 3, 1) := dc0 (j := 22) sX8_lazy_0 rfl op_29
theorem dX8_lazy_23 : decode cX8_lazy 23 = .ok (.ifCond .eq 7, 3) := dcTp (j := 23) (v := 7) (f := Instr.ifCond .eq) sX8_lazy_0 rfl op_153 rfl rfl
theorem dX8_lazy_26 : decode cX8_lazy 26 = .ok (.iload_n 3, 1) := dc0 (j := 26) sX8_lazy_0 rfl op_29
theorem dX8_lazy_27 : decode cX8_lazy 27 = .ok (.goto 20, 3) := dcTp (j := 27) (v := 20) (f := Instr.goto) sX8_lazy_0 rfl op_167 rfl rfl
theorem dX8_lazy_30 : decode cX8_lazy 30 = .ok (.aload_n 0, 1) := dc0 (j := 30) sX8_lazy_0 rfl op_42
theorem dX8_lazy_31 : decode cX8_lazy 31 = .ok (.iload_n 2, 1) := dc0 (j := 31) sX8_lazy_0 rfl op_28
theorem dX8_lazy_32 : decode cX8_lazy 32 = .ok (.iconst (-1), 1) := dc0 (j := 32) sX8_lazy_0 rfl op_2
theorem dX8_lazy_33 : decode cX8_lazy 33 = .ok (.iconst (-1), 1) := dc0 (j := 33) sX8_lazy_0 rfl op_2
theorem dX8_lazy_34 : decode cX8_lazy 34 = .ok (.iconst 0, 1) := dc0 (j := 34) sX8_lazy_0 rfl op_3
theorem sX8_lazy_35 : sgm cX8_lazy 35 [182, 0, 220, 42, 28, 27, 2, 3, 182, 0, 220, 100, 172] := by decide +kernel
theorem dX8_lazy_35 : decode cX8_lazy 35 = .ok (.invokevirtual 220, 3) := dcB (j := 0) (f := Instr.invokevirtual) sX8_lazy_35 rfl op_182 rfl
theorem dX8_lazy_38 : decode cX8_lazy 38 = .ok (.aload_n 0, 1) := dc0 (j := 3) sX8_lazy_35 rfl op_42
theorem dX8_lazy_39 : decode cX8_lazy 39 = .ok (.iload_n 2, 1) := dc0 (j := 4) sX8_lazy_35 rfl op_28
theorem dX8_lazy_40 : decode cX8_lazy 40 = .ok (.iload_n 1, 1) := dc0 (j := 5) sX8_lazy_35 rfl op_27
theorem dX8_lazy_41 : decode cX8_lazy 41 = .ok (.iconst (-1), 1) := dc0 (j := 6) sX8_lazy_35 rfl op_2
theorem dX8_lazy_42 : decode cX8_lazy 42 = .ok (.iconst 0, 1) := dc0 (j := 7) sX8_lazy_35 rfl op_3
theorem dX8_lazy_43 : decode cX8_lazy 43 = .ok (.invokevirtual 220, 3) := dcB (j := 8) (f := Instr.invokevirtual) sX8_lazy_35 rfl op_182 rfl
theorem dX8_lazy_46 : decode cX8_lazy 46 = .ok (.isub, 1) := dc0 (j := 11) sX8_lazy_35 rfl op_100
theorem dX8_lazy_47 : decode cX8_lazy 47 = .ok (.ireturn, 1) := dc0 (j := 12) sX8_lazy_35 rfl op_172
theorem sX8_refusesStranger_0 : sgm cX8_refusesStranger 0 [27, 133, 9, 20, 0, 159, 184, 0, 124, 153, 0, 11, 42, 28, 182, 0, 217, 167, 0, 5, 16, 253, 172] := by decide +kernel
theorem dX8_refusesStranger_0 : decode cX8_refusesStranger 0 = .ok (.iload_n 1, 1) := dc0 (j := 0) sX8_refusesStranger_0 rfl op_27
theorem dX8_refusesStranger_1 : decode cX8_refusesStranger 1 = .ok (.i2l, 1) := dc0 (j := 1) sX8_refusesStranger_0 rfl op_133
theorem dX8_refusesStranger_2 : decode cX8_refusesStranger 2 = .ok (.lconst 0, 1) := dc0 (j := 2) sX8_refusesStranger_0 rfl op_9
theorem dX8_refusesStranger_3 : decode cX8_refusesStranger 3 = .ok (.ldc2_w 159, 3) := dcB (j := 3) (f := Instr.ldc2_w) sX8_refusesStranger_0 rfl op_20 rfl
theorem dX8_refusesStranger_6 : decode cX8_refusesStranger 6 = .ok (.invokestatic 124, 3) := dcB (j := 6) (f := Instr.invokestatic) sX8_refusesStranger_0 rfl op_184 rfl
theorem dX8_refusesStranger_9 : decode cX8_refusesStranger 9 = .ok (.ifCond .eq 11, 3) := dcTp (j := 9) (v := 11) (f := Instr.ifCond .eq) sX8_refusesStranger_0 rfl op_153 rfl rfl
theorem dX8_refusesStranger_12 : decode cX8_refusesStranger 12 = .ok (.aload_n 0, 1) := dc0 (j := 12) sX8_refusesStranger_0 rfl op_42
theorem dX8_refusesStranger_13 : decode cX8_refusesStranger 13 = .ok (.iload_n 2, 1) := dc0 (j := 13) sX8_refusesStranger_0 rfl op_28
theorem dX8_refusesStranger_14 : decode cX8_refusesStranger 14 = .ok (.invokevirtual 217, 3) := dcB (j := 14) (f := Instr.invokevirtual) sX8_refusesStranger_0 rfl op_182 rfl
theorem dX8_refusesStranger_17 : decode cX8_refusesStranger 17 = .ok (.goto 5, 3) := dcTp (j := 17) (v := 5) (f := Instr.goto) sX8_refusesStranger_0 rfl op_167 rfl rfl
theorem dX8_refusesStranger_20 : decode cX8_refusesStranger 20 = .ok (.bipush (-3), 2) := dcSn (j := 20) (v := 3) (f := Instr.bipush) sX8_refusesStranger_0 rfl op_16 rfl rfl rfl
theorem dX8_refusesStranger_22 : decode cX8_refusesStranger 22 = .ok (.ireturn, 1) := dc0 (j := 22) sX8_refusesStranger_0 rfl op_172
theorem sX8_brings_0 : sgm cX8_brings 0 [42, 29, 2, 42, 180, 0, 13, 16, 84, 27, 96, 46, 28, 182, 0, 220, 42, 29, 2, 2, 3, 182, 0, 220, 100, 172] := by decide +kernel
theorem dX8_brings_0 : decode cX8_brings 0 = .ok (.aload_n 0, 1) := dc0 (j := 0) sX8_brings_0 rfl op_42
theorem dX8_brings_1 : decode cX8_brings 1 = .ok (.iload_n 3, 1) := dc0 (j := 1) sX8_brings_0 rfl op_29
theorem dX8_brings_2 : decode cX8_brings 2 = .ok (.iconst (-1), 1) := dc0 (j := 2) sX8_brings_0 rfl op_2
theorem dX8_brings_3 : decode cX8_brings 3 = .ok (.aload_n 0, 1) := dc0 (j := 3) sX8_brings_0 rfl op_42
theorem dX8_brings_4 : decode cX8_brings 4 = .ok (.getfield 13, 3) := dcB (j := 4) (f := Instr.getfield) sX8_brings_0 rfl op_180 rfl
theorem dX8_brings_7 : decode cX8_brings 7 = .ok (.bipush 84, 2) := dcSp (j := 7) (a := 84) (f := Instr.bipush) sX8_brings_0 rfl op_16 rfl
theorem dX8_brings_9 : decode cX8_brings 9 = .ok (.iload_n 1, 1) := dc0 (j := 9) sX8_brings_0 rfl op_27
theorem dX8_brings_10 : decode cX8_brings 10 = .ok (.iadd, 1) := dc0 (j := 10) sX8_brings_0 rfl op_96
theorem dX8_brings_11 : decode cX8_brings 11 = .ok (.iaload, 1) := dc0 (j := 11) sX8_brings_0 rfl op_46
theorem dX8_brings_12 : decode cX8_brings 12 = .ok (.iload_n 2, 1) := dc0 (j := 12) sX8_brings_0 rfl op_28
theorem dX8_brings_13 : decode cX8_brings 13 = .ok (.invokevirtual 220, 3) := dcB (j := 13) (f := Instr.invokevirtual) sX8_brings_0 rfl op_182 rfl
theorem dX8_brings_16 : decode cX8_brings 16 = .ok (.aload_n 0, 1) := dc0 (j := 16) sX8_brings_0 rfl op_42
theorem dX8_brings_17 : decode cX8_brings 17 = .ok (.iload_n 3, 1) := dc0 (j := 17) sX8_brings_0 rfl op_29
theorem dX8_brings_18 : decode cX8_brings 18 = .ok (.iconst (-1), 1) := dc0 (j := 18) sX8_brings_0 rfl op_2
theorem dX8_brings_19 : decode cX8_brings 19 = .ok (.iconst (-1), 1) := dc0 (j := 19) sX8_brings_0 rfl op_2
theorem dX8_brings_20 : decode cX8_brings 20 = .ok (.iconst 0, 1) := dc0 (j := 20) sX8_brings_0 rfl op_3
theorem dX8_brings_21 : decode cX8_brings 21 = .ok (.invokevirtual 220, 3) := dcB (j := 21) (f := Instr.invokevirtual) sX8_brings_0 rfl op_182 rfl
theorem dX8_brings_24 : decode cX8_brings 24 = .ok (.isub, 1) := dc0 (j := 24) sX8_brings_0 rfl op_100
theorem dX8_brings_25 : decode cX8_brings 25 = .ok (.ireturn, 1) := dc0 (j := 25) sX8_brings_0 rfl op_172
theorem sX8_stranger_0 : sgm cX8_stranger 0 [42, 3, 181, 0, 1, 42, 27, 182, 0, 148, 154, 0, 6, 16, 254, 172, 42, 28, 29, 182, 1, 52, 54, 4, 21, 4, 153, 0, 8, 21, 4, 167, 0, 10, 42, 27] := by decide +kernel
theorem dX8_stranger_0 : decode cX8_stranger 0 = .ok (.aload_n 0, 1) := dc0 (j := 0) sX8_stranger_0 rfl op_42
theorem dX8_stranger_1 : decode cX8_stranger 1 = .ok (.iconst 0, 1) := dc0 (j := 1) sX8_stranger_0 rfl op_3
theorem dX8_stranger_2 : decode cX8_stranger 2 = .ok (.putfield 1, 3) := dcB (j := 2) (f := Instr.putfield) sX8_stranger_0 rfl op_181 rfl
theorem dX8_stranger_5 : decode cX8_stranger 5 = .ok (.aload_n 0, 1) := dc0 (j := 5) sX8_stranger_0 rfl op_42
theorem dX8_stranger_6 : decode cX8_stranger 6 = .ok (.iload_n 1, 1) := dc0 (j := 6) sX8_stranger_0 rfl op_27
theorem dX8_stranger_7 : decode cX8_stranger 7 = .ok (.invokevirtual 148, 3) := dcB (j := 7) (f := Instr.invokevirtual) sX8_stranger_0 rfl op_182 rfl
theorem dX8_stranger_10 : decode cX8_stranger 10 = .ok (.ifCond .ne 6, 3) := dcTp (j := 10) (v := 6) (f := Instr.ifCond .ne) sX8_stranger_0 rfl op_154 rfl rfl
theorem dX8_stranger_13 : decode cX8_stranger 13 = .ok (.bipush (-2), 2) := dcSn (j := 13) (v := 2) (f := Instr.bipush) sX8_stranger_0 rfl op_16 rfl rfl rfl
theorem dX8_stranger_15 : decode cX8_stranger 15 = .ok (.ireturn, 1) := dc0 (j := 15) sX8_stranger_0 rfl op_172
theorem dX8_stranger_16 : decode cX8_stranger 16 = .ok (.aload_n 0, 1) := dc0 (j := 16) sX8_stranger_0 rfl op_42
theorem dX8_stranger_17 : decode cX8_stranger 17 = .ok (.iload_n 2, 1) := dc0 (j := 17) sX8_stranger_0 rfl op_28
theorem dX8_stranger_18 : decode cX8_stranger 18 = .ok (.iload_n 3, 1) := dc0 (j := 18) sX8_stranger_0 rfl op_29
theorem dX8_stranger_19 : decode cX8_stranger 19 = .ok (.invokevirtual 308, 3) := dcB (j := 19) (f := Instr.invokevirtual) sX8_stranger_0 rfl op_182 rfl
theorem dX8_stranger_22 : decode cX8_stranger 22 = .ok (.istore 4, 2) := dcA (j := 22) (f := Instr.istore) sX8_stranger_0 rfl op_54
theorem dX8_stranger_24 : decode cX8_stranger 24 = .ok (.iload 4, 2) := dcA (j := 24) (f := Instr.iload) sX8_stranger_0 rfl op_21
theorem dX8_stranger_26 : decode cX8_stranger 26 = .ok (.ifCond .eq 8, 3) := dcTp (j := 26) (v := 8) (f := Instr.ifCond .eq) sX8_stranger_0 rfl op_153 rfl rfl
theorem dX8_stranger_29 : decode cX8_stranger 29 = .ok (.iload 4, 2) := dcA (j := 29) (f := Instr.iload) sX8_stranger_0 rfl op_21
theorem dX8_stranger_31 : decode cX8_stranger 31 = .ok (.goto 10, 3) := dcTp (j := 31) (v := 10) (f := Instr.goto) sX8_stranger_0 rfl op_167 rfl rfl
theorem dX8_stranger_34 : decode cX8_stranger 34 = .ok (.aload_n 0, 1) := dc0 (j := 34) sX8_stranger_0 rfl op_42
theorem dX8_stranger_35 : decode cX8_stranger 35 = .ok (.iload_n 1, 1) := dc0 (j := 35) sX8_stranger_0 rfl op_27
theorem sX8_stranger_36 : sgm cX8_stranger 36 [28, 29, 182, 1, 55, 172] := by decide +kernel
theorem dX8_stranger_36 : decode cX8_stranger 36 = .ok (.iload_n 2, 1) := dc0 (j := 0) sX8_stranger_36 rfl op_28
theorem dX8_stranger_37 : decode cX8_stranger 37 = .ok (.iload_n 3, 1) := dc0 (j := 1) sX8_stranger_36 rfl op_29
theorem dX8_stranger_38 : decode cX8_stranger 38 = .ok (.invokevirtual 311, 3) := dcB (j := 2) (f := Instr.invokevirtual) sX8_stranger_36 rfl op_182 rfl
theorem dX8_stranger_41 : decode cX8_stranger 41 = .ok (.ireturn, 1) := dc0 (j := 5) sX8_stranger_36 rfl op_172
theorem sX8_bestPlace_0 : sgm cX8_bestPlace 0 [42, 3, 181, 0, 1, 42, 180, 0, 13, 3, 46, 154, 0, 5, 2, 172, 42, 27, 28, 182, 1, 52, 62, 29, 153, 0, 5, 29, 172, 3, 54, 4, 4, 54, 5] := by decide +kernel
theorem dX8_bestPlace_0 : decode cX8_bestPlace 0 = .ok (.aload_n 0, 1) := dc0 (j := 0) sX8_bestPlace_0 rfl op_42
theorem dX8_bestPlace_1 : decode cX8_bestPlace 1 = .ok (.iconst 0, 1) := dc0 (j := 1) sX8_bestPlace_0 rfl op_3
theorem dX8_bestPlace_2 : decode cX8_bestPlace 2 = .ok (.putfield 1, 3) := dcB (j := 2) (f := Instr.putfield) sX8_bestPlace_0 rfl op_181 rfl
theorem dX8_bestPlace_5 : decode cX8_bestPlace 5 = .ok (.aload_n 0, 1) := dc0 (j := 5) sX8_bestPlace_0 rfl op_42
theorem dX8_bestPlace_6 : decode cX8_bestPlace 6 = .ok (.getfield 13, 3) := dcB (j := 6) (f := Instr.getfield) sX8_bestPlace_0 rfl op_180 rfl
theorem dX8_bestPlace_9 : decode cX8_bestPlace 9 = .ok (.iconst 0, 1) := dc0 (j := 9) sX8_bestPlace_0 rfl op_3
theorem dX8_bestPlace_10 : decode cX8_bestPlace 10 = .ok (.iaload, 1) := dc0 (j := 10) sX8_bestPlace_0 rfl op_46
theorem dX8_bestPlace_11 : decode cX8_bestPlace 11 = .ok (.ifCond .ne 5, 3) := dcTp (j := 11) (v := 5) (f := Instr.ifCond .ne) sX8_bestPlace_0 rfl op_154 rfl rfl
theorem dX8_bestPlace_14 : decode cX8_bestPlace 14 = .ok (.iconst (-1), 1) := dc0 (j := 14) sX8_bestPlace_0 rfl op_2
theorem dX8_bestPlace_15 : decode cX8_bestPlace 15 = .ok (.ireturn, 1) := dc0 (j := 15) sX8_bestPlace_0 rfl op_172
theorem dX8_bestPlace_16 : decode cX8_bestPlace 16 = .ok (.aload_n 0, 1) := dc0 (j := 16) sX8_bestPlace_0 rfl op_42
theorem dX8_bestPlace_17 : decode cX8_bestPlace 17 = .ok (.iload_n 1, 1) := dc0 (j := 17) sX8_bestPlace_0 rfl op_27
theorem dX8_bestPlace_18 : decode cX8_bestPlace 18 = .ok (.iload_n 2, 1) := dc0 (j := 18) sX8_bestPlace_0 rfl op_28
theorem dX8_bestPlace_19 : decode cX8_bestPlace 19 = .ok (.invokevirtual 308, 3) := dcB (j := 19) (f := Instr.invokevirtual) sX8_bestPlace_0 rfl op_182 rfl
theorem dX8_bestPlace_22 : decode cX8_bestPlace 22 = .ok (.istore_n 3, 1) := dc0 (j := 22) sX8_bestPlace_0 rfl op_62
theorem dX8_bestPlace_23 : decode cX8_bestPlace 23 = .ok (.iload_n 3, 1) := dc0 (j := 23) sX8_bestPlace_0 rfl op_29
theorem dX8_bestPlace_24 : decode cX8_bestPlace 24 = .ok (.ifCond .eq 5, 3) := dcTp (j := 24) (v := 5) (f := Instr.ifCond .eq) sX8_bestPlace_0 rfl op_153 rfl rfl
theorem dX8_bestPlace_27 : decode cX8_bestPlace 27 = .ok (.iload_n 3, 1) := dc0 (j := 27) sX8_bestPlace_0 rfl op_29
theorem dX8_bestPlace_28 : decode cX8_bestPlace 28 = .ok (.ireturn, 1) := dc0 (j := 28) sX8_bestPlace_0 rfl op_172
theorem dX8_bestPlace_29 : decode cX8_bestPlace 29 = .ok (.iconst 0, 1) := dc0 (j := 29) sX8_bestPlace_0 rfl op_3
theorem dX8_bestPlace_30 : decode cX8_bestPlace 30 = .ok (.istore 4, 2) := dcA (j := 30) (f := Instr.istore) sX8_bestPlace_0 rfl op_54
theorem dX8_bestPlace_32 : decode cX8_bestPlace 32 = .ok (.iconst 1, 1) := dc0 (j := 32) sX8_bestPlace_0 rfl op_4
theorem dX8_bestPlace_33 : decode cX8_bestPlace 33 = .ok (.istore 5, 2) := dcA (j := 33) (f := Instr.istore) sX8_bestPlace_0 rfl op_54
theorem sX8_bestPlace_35 : sgm cX8_bestPlace 35 [21, 5, 42, 180, 0, 13, 3, 46, 162, 0, 32, 42, 21, 5, 27, 28, 182, 1, 55, 42, 21, 4, 27, 28, 182, 1, 55, 164, 0, 7, 21, 5, 54, 4] := by decide +kernel
theorem dX8_bestPlace_35 : decode cX8_bestPlace 35 = .ok (.iload 5, 2) := dcA (j := 0) (f := Instr.iload) sX8_bestPlace_35 rfl op_21
theorem dX8_bestPlace_37 : decode cX8_bestPlace 37 = .ok (.aload_n 0, 1) := dc0 (j := 2) sX8_bestPlace_35 rfl op_42
theorem dX8_bestPlace_38 : decode cX8_bestPlace 38 = .ok (.getfield 13, 3) := dcB (j := 3) (f := Instr.getfield) sX8_bestPlace_35 rfl op_180 rfl
theorem dX8_bestPlace_41 : decode cX8_bestPlace 41 = .ok (.iconst 0, 1) := dc0 (j := 6) sX8_bestPlace_35 rfl op_3
theorem dX8_bestPlace_42 : decode cX8_bestPlace 42 = .ok (.iaload, 1) := dc0 (j := 7) sX8_bestPlace_35 rfl op_46
theorem dX8_bestPlace_43 : decode cX8_bestPlace 43 = .ok (.if_icmp .ge 32, 3) := dcTp (j := 8) (v := 32) (f := Instr.if_icmp .ge) sX8_bestPlace_35 rfl op_162 rfl rfl
theorem dX8_bestPlace_46 : decode cX8_bestPlace 46 = .ok (.aload_n 0, 1) := dc0 (j := 11) sX8_bestPlace_35 rfl op_42
theorem dX8_bestPlace_47 : decode cX8_bestPlace 47 = .ok (.iload 5, 2) := dcA (j := 12) (f := Instr.iload) sX8_bestPlace_35 rfl op_21
theorem dX8_bestPlace_49 : decode cX8_bestPlace 49 = .ok (.iload_n 1, 1) := dc0 (j := 14) sX8_bestPlace_35 rfl op_27
theorem dX8_bestPlace_50 : decode cX8_bestPlace 50 = .ok (.iload_n 2, 1) := dc0 (j := 15) sX8_bestPlace_35 rfl op_28
theorem dX8_bestPlace_51 : decode cX8_bestPlace 51 = .ok (.invokevirtual 311, 3) := dcB (j := 16) (f := Instr.invokevirtual) sX8_bestPlace_35 rfl op_182 rfl
theorem dX8_bestPlace_54 : decode cX8_bestPlace 54 = .ok (.aload_n 0, 1) := dc0 (j := 19) sX8_bestPlace_35 rfl op_42
theorem dX8_bestPlace_55 : decode cX8_bestPlace 55 = .ok (.iload 4, 2) := dcA (j := 20) (f := Instr.iload) sX8_bestPlace_35 rfl op_21
theorem dX8_bestPlace_57 : decode cX8_bestPlace 57 = .ok (.iload_n 1, 1) := dc0 (j := 22) sX8_bestPlace_35 rfl op_27
theorem dX8_bestPlace_58 : decode cX8_bestPlace 58 = .ok (.iload_n 2, 1) := dc0 (j := 23) sX8_bestPlace_35 rfl op_28
theorem dX8_bestPlace_59 : decode cX8_bestPlace 59 = .ok (.invokevirtual 311, 3) := dcB (j := 24) (f := Instr.invokevirtual) sX8_bestPlace_35 rfl op_182 rfl
theorem dX8_bestPlace_62 : decode cX8_bestPlace 62 = .ok (.if_icmp .le 7, 3) := dcTp (j := 27) (v := 7) (f := Instr.if_icmp .le) sX8_bestPlace_35 rfl op_164 rfl rfl
theorem dX8_bestPlace_65 : decode cX8_bestPlace 65 = .ok (.iload 5, 2) := dcA (j := 30) (f := Instr.iload) sX8_bestPlace_35 rfl op_21
theorem dX8_bestPlace_67 : decode cX8_bestPlace 67 = .ok (.istore 4, 2) := dcA (j := 32) (f := Instr.istore) sX8_bestPlace_35 rfl op_54
theorem sX8_bestPlace_69 : sgm cX8_bestPlace 69 [132, 5, 1, 167, 255, 219, 21, 4, 172] := by decide +kernel
theorem dX8_bestPlace_69 : decode cX8_bestPlace 69 = .ok (.iinc 5 1, 3) := dcIp (j := 0) sX8_bestPlace_69 rfl op_132 rfl
theorem dX8_bestPlace_72 : decode cX8_bestPlace 72 = .ok (.goto (-37), 3) := dcTn (j := 3) (v := 37) (f := Instr.goto) sX8_bestPlace_69 rfl op_167 rfl rfl rfl
theorem dX8_bestPlace_75 : decode cX8_bestPlace 75 = .ok (.iload 4, 2) := dcA (j := 6) (f := Instr.iload) sX8_bestPlace_69 rfl op_21
theorem dX8_bestPlace_77 : decode cX8_bestPlace 77 = .ok (.ireturn, 1) := dc0 (j := 8) sX8_bestPlace_69 rfl op_172
theorem sX8_swaps_0 : sgm cX8_swaps 0 [42, 180, 0, 13, 7, 27, 96, 46, 62, 42, 180, 0, 13, 7, 27, 96, 42, 180, 0, 13, 7, 28, 96, 46, 79, 42, 180, 0, 13, 7, 28, 96, 29, 79, 177] := by decide +kernel
theorem dX8_swaps_0 : decode cX8_swaps 0 = .ok (.aload_n 0, 1) := dc0 (j := 0) sX8_swaps_0 rfl op_42
theorem dX8_swaps_1 : decode cX8_swaps 1 = .ok (.getfield 13, 3) := dcB (j := 1) (f := Instr.getfield) sX8_swaps_0 rfl op_180 rfl
theorem dX8_swaps_4 : decode cX8_swaps 4 = .ok (.iconst 4, 1) := dc0 (j := 4) sX8_swaps_0 rfl op_7
theorem dX8_swaps_5 : decode cX8_swaps 5 = .ok (.iload_n 1, 1) := dc0 (j := 5) sX8_swaps_0 rfl op_27
theorem dX8_swaps_6 : decode cX8_swaps 6 = .ok (.iadd, 1) := dc0 (j := 6) sX8_swaps_0 rfl op_96
theorem dX8_swaps_7 : decode cX8_swaps 7 = .ok (.iaload, 1) := dc0 (j := 7) sX8_swaps_0 rfl op_46
theorem dX8_swaps_8 : decode cX8_swaps 8 = .ok (.istore_n 3, 1) := dc0 (j := 8) sX8_swaps_0 rfl op_62
theorem dX8_swaps_9 : decode cX8_swaps 9 = .ok (.aload_n 0, 1) := dc0 (j := 9) sX8_swaps_0 rfl op_42
theorem dX8_swaps_10 : decode cX8_swaps 10 = .ok (.getfield 13, 3) := dcB (j := 10) (f := Instr.getfield) sX8_swaps_0 rfl op_180 rfl
theorem dX8_swaps_13 : decode cX8_swaps 13 = .ok (.iconst 4, 1) := dc0 (j := 13) sX8_swaps_0 rfl op_7
theorem dX8_swaps_14 : decode cX8_swaps 14 = .ok (.iload_n 1, 1) := dc0 (j := 14) sX8_swaps_0 rfl op_27
theorem dX8_swaps_15 : decode cX8_swaps 15 = .ok (.iadd, 1) := dc0 (j := 15) sX8_swaps_0 rfl op_96
theorem dX8_swaps_16 : decode cX8_swaps 16 = .ok (.aload_n 0, 1) := dc0 (j := 16) sX8_swaps_0 rfl op_42
theorem dX8_swaps_17 : decode cX8_swaps 17 = .ok (.getfield 13, 3) := dcB (j := 17) (f := Instr.getfield) sX8_swaps_0 rfl op_180 rfl
theorem dX8_swaps_20 : decode cX8_swaps 20 = .ok (.iconst 4, 1) := dc0 (j := 20) sX8_swaps_0 rfl op_7
theorem dX8_swaps_21 : decode cX8_swaps 21 = .ok (.iload_n 2, 1) := dc0 (j := 21) sX8_swaps_0 rfl op_28
theorem dX8_swaps_22 : decode cX8_swaps 22 = .ok (.iadd, 1) := dc0 (j := 22) sX8_swaps_0 rfl op_96
theorem dX8_swaps_23 : decode cX8_swaps 23 = .ok (.iaload, 1) := dc0 (j := 23) sX8_swaps_0 rfl op_46
theorem dX8_swaps_24 : decode cX8_swaps 24 = .ok (.iastore, 1) := dc0 (j := 24) sX8_swaps_0 rfl op_79
theorem dX8_swaps_25 : decode cX8_swaps 25 = .ok (.aload_n 0, 1) := dc0 (j := 25) sX8_swaps_0 rfl op_42
theorem dX8_swaps_26 : decode cX8_swaps 26 = .ok (.getfield 13, 3) := dcB (j := 26) (f := Instr.getfield) sX8_swaps_0 rfl op_180 rfl
theorem dX8_swaps_29 : decode cX8_swaps 29 = .ok (.iconst 4, 1) := dc0 (j := 29) sX8_swaps_0 rfl op_7
theorem dX8_swaps_30 : decode cX8_swaps 30 = .ok (.iload_n 2, 1) := dc0 (j := 30) sX8_swaps_0 rfl op_28
theorem dX8_swaps_31 : decode cX8_swaps 31 = .ok (.iadd, 1) := dc0 (j := 31) sX8_swaps_0 rfl op_96
theorem dX8_swaps_32 : decode cX8_swaps 32 = .ok (.iload_n 3, 1) := dc0 (j := 32) sX8_swaps_0 rfl op_29
theorem dX8_swaps_33 : decode cX8_swaps 33 = .ok (.iastore, 1) := dc0 (j := 33) sX8_swaps_0 rfl op_79
theorem dX8_swaps_34 : decode cX8_swaps 34 = .ok (.return_, 1) := dc0 (j := 34) sX8_swaps_0 rfl op_177
theorem sX8_swapped_0 : sgm cX8_swapped 0 [42, 3, 181, 0, 1, 28, 133, 9, 10, 184, 0, 124, 154, 0, 6, 16, 254, 172, 42, 27, 182, 0, 217, 62, 29, 153, 0, 5, 29, 172, 42, 27, 2, 2, 3] := by decide +kernel
theorem dX8_swapped_0 : decode cX8_swapped 0 = .ok (.aload_n 0, 1) := dc0 (j := 0) sX8_swapped_0 rfl op_42
theorem dX8_swapped_1 : decode cX8_swapped 1 = .ok (.iconst 0, 1) := dc0 (j := 1) sX8_swapped_0 rfl op_3
theorem dX8_swapped_2 : decode cX8_swapped 2 = .ok (.putfield 1, 3) := dcB (j := 2) (f := Instr.putfield) sX8_swapped_0 rfl op_181 rfl
theorem dX8_swapped_5 : decode cX8_swapped 5 = .ok (.iload_n 2, 1) := dc0 (j := 5) sX8_swapped_0 rfl op_28
theorem dX8_swapped_6 : decode cX8_swapped 6 = .ok (.i2l, 1) := dc0 (j := 6) sX8_swapped_0 rfl op_133
theorem dX8_swapped_7 : decode cX8_swapped 7 = .ok (.lconst 0, 1) := dc0 (j := 7) sX8_swapped_0 rfl op_9
theorem dX8_swapped_8 : decode cX8_swapped 8 = .ok (.lconst 1, 1) := dc0 (j := 8) sX8_swapped_0 rfl op_10
theorem dX8_swapped_9 : decode cX8_swapped 9 = .ok (.invokestatic 124, 3) := dcB (j := 9) (f := Instr.invokestatic) sX8_swapped_0 rfl op_184 rfl
theorem dX8_swapped_12 : decode cX8_swapped 12 = .ok (.ifCond .ne 6, 3) := dcTp (j := 12) (v := 6) (f := Instr.ifCond .ne) sX8_swapped_0 rfl op_154 rfl rfl
theorem dX8_swapped_15 : decode cX8_swapped 15 = .ok (.bipush (-2), 2) := dcSn (j := 15) (v := 2) (f := Instr.bipush) sX8_swapped_0 rfl op_16 rfl rfl rfl
theorem dX8_swapped_17 : decode cX8_swapped 17 = .ok (.ireturn, 1) := dc0 (j := 17) sX8_swapped_0 rfl op_172
theorem dX8_swapped_18 : decode cX8_swapped 18 = .ok (.aload_n 0, 1) := dc0 (j := 18) sX8_swapped_0 rfl op_42
theorem dX8_swapped_19 : decode cX8_swapped 19 = .ok (.iload_n 1, 1) := dc0 (j := 19) sX8_swapped_0 rfl op_27
theorem dX8_swapped_20 : decode cX8_swapped 20 = .ok (.invokevirtual 217, 3) := dcB (j := 20) (f := Instr.invokevirtual) sX8_swapped_0 rfl op_182 rfl
theorem dX8_swapped_23 : decode cX8_swapped 23 = .ok (.istore_n 3, 1) := dc0 (j := 23) sX8_swapped_0 rfl op_62
theorem dX8_swapped_24 : decode cX8_swapped 24 = .ok (.iload_n 3, 1) := dc0 (j := 24) sX8_swapped_0 rfl op_29
theorem dX8_swapped_25 : decode cX8_swapped 25 = .ok (.ifCond .eq 5, 3) := dcTp (j := 25) (v := 5) (f := Instr.ifCond .eq) sX8_swapped_0 rfl op_153 rfl rfl
theorem dX8_swapped_28 : decode cX8_swapped 28 = .ok (.iload_n 3, 1) := dc0 (j := 28) sX8_swapped_0 rfl op_29
theorem dX8_swapped_29 : decode cX8_swapped 29 = .ok (.ireturn, 1) := dc0 (j := 29) sX8_swapped_0 rfl op_172
theorem dX8_swapped_30 : decode cX8_swapped 30 = .ok (.aload_n 0, 1) := dc0 (j := 30) sX8_swapped_0 rfl op_42
theorem dX8_swapped_31 : decode cX8_swapped 31 = .ok (.iload_n 1, 1) := dc0 (j := 31) sX8_swapped_0 rfl op_27
theorem dX8_swapped_32 : decode cX8_swapped 32 = .ok (.iconst (-1), 1) := dc0 (j := 32) sX8_swapped_0 rfl op_2
theorem dX8_swapped_33 : decode cX8_swapped 33 = .ok (.iconst (-1), 1) := dc0 (j := 33) sX8_swapped_0 rfl op_2
theorem dX8_swapped_34 : decode cX8_swapped 34 = .ok (.iconst 0, 1) := dc0 (j := 34) sX8_swapped_0 rfl op_3
theorem sX8_swapped_35 : sgm cX8_swapped 35 [182, 0, 220, 54, 4, 3, 54, 5, 2, 54, 6, 3, 54, 7, 21, 7, 42, 180, 0, 13, 3, 46, 162, 0, 85, 21, 7, 4, 96, 54, 8, 21, 8, 42] := by decide +kernel
theorem dX8_swapped_35 : decode cX8_swapped 35 = .ok (.invokevirtual 220, 3) := dcB (j := 0) (f := Instr.invokevirtual) sX8_swapped_35 rfl op_182 rfl
theorem dX8_swapped_38 : decode cX8_swapped 38 = .ok (.istore 4, 2) := dcA (j := 3) (f := Instr.istore) sX8_swapped_35 rfl op_54
theorem dX8_swapped_40 : decode cX8_swapped 40 = .ok (.iconst 0, 1) := dc0 (j := 5) sX8_swapped_35 rfl op_3
theorem dX8_swapped_41 : decode cX8_swapped 41 = .ok (.istore 5, 2) := dcA (j := 6) (f := Instr.istore) sX8_swapped_35 rfl op_54
theorem dX8_swapped_43 : decode cX8_swapped 43 = .ok (.iconst (-1), 1) := dc0 (j := 8) sX8_swapped_35 rfl op_2
theorem dX8_swapped_44 : decode cX8_swapped 44 = .ok (.istore 6, 2) := dcA (j := 9) (f := Instr.istore) sX8_swapped_35 rfl op_54
theorem dX8_swapped_46 : decode cX8_swapped 46 = .ok (.iconst 0, 1) := dc0 (j := 11) sX8_swapped_35 rfl op_3
theorem dX8_swapped_47 : decode cX8_swapped 47 = .ok (.istore 7, 2) := dcA (j := 12) (f := Instr.istore) sX8_swapped_35 rfl op_54
theorem dX8_swapped_49 : decode cX8_swapped 49 = .ok (.iload 7, 2) := dcA (j := 14) (f := Instr.iload) sX8_swapped_35 rfl op_21
theorem dX8_swapped_51 : decode cX8_swapped 51 = .ok (.aload_n 0, 1) := dc0 (j := 16) sX8_swapped_35 rfl op_42
theorem dX8_swapped_52 : decode cX8_swapped 52 = .ok (.getfield 13, 3) := dcB (j := 17) (f := Instr.getfield) sX8_swapped_35 rfl op_180 rfl
theorem dX8_swapped_55 : decode cX8_swapped 55 = .ok (.iconst 0, 1) := dc0 (j := 20) sX8_swapped_35 rfl op_3
theorem dX8_swapped_56 : decode cX8_swapped 56 = .ok (.iaload, 1) := dc0 (j := 21) sX8_swapped_35 rfl op_46
theorem dX8_swapped_57 : decode cX8_swapped 57 = .ok (.if_icmp .ge 85, 3) := dcTp (j := 22) (v := 85) (f := Instr.if_icmp .ge) sX8_swapped_35 rfl op_162 rfl rfl
theorem dX8_swapped_60 : decode cX8_swapped 60 = .ok (.iload 7, 2) := dcA (j := 25) (f := Instr.iload) sX8_swapped_35 rfl op_21
theorem dX8_swapped_62 : decode cX8_swapped 62 = .ok (.iconst 1, 1) := dc0 (j := 27) sX8_swapped_35 rfl op_4
theorem dX8_swapped_63 : decode cX8_swapped 63 = .ok (.iadd, 1) := dc0 (j := 28) sX8_swapped_35 rfl op_96
theorem dX8_swapped_64 : decode cX8_swapped 64 = .ok (.istore 8, 2) := dcA (j := 29) (f := Instr.istore) sX8_swapped_35 rfl op_54
theorem dX8_swapped_66 : decode cX8_swapped 66 = .ok (.iload 8, 2) := dcA (j := 31) (f := Instr.iload) sX8_swapped_35 rfl op_21
theorem dX8_swapped_68 : decode cX8_swapped 68 = .ok (.aload_n 0, 1) := dc0 (j := 33) sX8_swapped_35 rfl op_42
theorem sX8_swapped_69 : sgm cX8_swapped 69 [180, 0, 13, 3, 46, 162, 0, 62, 42, 21, 7, 21, 8, 182, 1, 58, 42, 27, 2, 2, 3, 182, 0, 220, 21, 4, 100, 54, 9, 42, 21, 7, 21, 8] := by decide +kernel
theorem dX8_swapped_69 : decode cX8_swapped 69 = .ok (.getfield 13, 3) := dcB (j := 0) (f := Instr.getfield) sX8_swapped_69 rfl op_180 rfl
theorem dX8_swapped_72 : decode cX8_swapped 72 = .ok (.iconst 0, 1) := dc0 (j := 3) sX8_swapped_69 rfl op_3
theorem dX8_swapped_73 : decode cX8_swapped 73 = .ok (.iaload, 1) := dc0 (j := 4) sX8_swapped_69 rfl op_46
theorem dX8_swapped_74 : decode cX8_swapped 74 = .ok (.if_icmp .ge 62, 3) := dcTp (j := 5) (v := 62) (f := Instr.if_icmp .ge) sX8_swapped_69 rfl op_162 rfl rfl
theorem dX8_swapped_77 : decode cX8_swapped 77 = .ok (.aload_n 0, 1) := dc0 (j := 8) sX8_swapped_69 rfl op_42
theorem dX8_swapped_78 : decode cX8_swapped 78 = .ok (.iload 7, 2) := dcA (j := 9) (f := Instr.iload) sX8_swapped_69 rfl op_21
theorem dX8_swapped_80 : decode cX8_swapped 80 = .ok (.iload 8, 2) := dcA (j := 11) (f := Instr.iload) sX8_swapped_69 rfl op_21
theorem dX8_swapped_82 : decode cX8_swapped 82 = .ok (.invokevirtual 314, 3) := dcB (j := 13) (f := Instr.invokevirtual) sX8_swapped_69 rfl op_182 rfl
theorem dX8_swapped_85 : decode cX8_swapped 85 = .ok (.aload_n 0, 1) := dc0 (j := 16) sX8_swapped_69 rfl op_42
theorem dX8_swapped_86 : decode cX8_swapped 86 = .ok (.iload_n 1, 1) := dc0 (j := 17) sX8_swapped_69 rfl op_27
theorem dX8_swapped_87 : decode cX8_swapped 87 = .ok (.iconst (-1), 1) := dc0 (j := 18) sX8_swapped_69 rfl op_2
theorem dX8_swapped_88 : decode cX8_swapped 88 = .ok (.iconst (-1), 1) := dc0 (j := 19) sX8_swapped_69 rfl op_2
theorem dX8_swapped_89 : decode cX8_swapped 89 = .ok (.iconst 0, 1) := dc0 (j := 20) sX8_swapped_69 rfl op_3
theorem dX8_swapped_90 : decode cX8_swapped 90 = .ok (.invokevirtual 220, 3) := dcB (j := 21) (f := Instr.invokevirtual) sX8_swapped_69 rfl op_182 rfl
theorem dX8_swapped_93 : decode cX8_swapped 93 = .ok (.iload 4, 2) := dcA (j := 24) (f := Instr.iload) sX8_swapped_69 rfl op_21
theorem dX8_swapped_95 : decode cX8_swapped 95 = .ok (.isub, 1) := dc0 (j := 26) sX8_swapped_69 rfl op_100
theorem dX8_swapped_96 : decode cX8_swapped 96 = .ok (.istore 9, 2) := dcA (j := 27) (f := Instr.istore) sX8_swapped_69 rfl op_54
theorem dX8_swapped_98 : decode cX8_swapped 98 = .ok (.aload_n 0, 1) := dc0 (j := 29) sX8_swapped_69 rfl op_42
theorem dX8_swapped_99 : decode cX8_swapped 99 = .ok (.iload 7, 2) := dcA (j := 30) (f := Instr.iload) sX8_swapped_69 rfl op_21
theorem dX8_swapped_101 : decode cX8_swapped 101 = .ok (.iload 8, 2) := dcA (j := 32) (f := Instr.iload) sX8_swapped_69 rfl op_21
theorem sX8_swapped_103 : sgm cX8_swapped 103 [182, 1, 58, 21, 9, 21, 5, 163, 0, 6, 167, 0, 17, 21, 9, 54, 5, 16, 10, 21, 7, 104, 21, 8, 96, 54, 6, 132, 8, 1, 167, 255, 189, 132, 7, 1] := by decide +kernel
theorem dX8_swapped_103 : decode cX8_swapped 103 = .ok (.invokevirtual 314, 3) := dcB (j := 0) (f := Instr.invokevirtual) sX8_swapped_103 rfl op_182 rfl
theorem dX8_swapped_106 : decode cX8_swapped 106 = .ok (.iload 9, 2) := dcA (j := 3) (f := Instr.iload) sX8_swapped_103 rfl op_21
theorem dX8_swapped_108 : decode cX8_swapped 108 = .ok (.iload 5, 2) := dcA (j := 5) (f := Instr.iload) sX8_swapped_103 rfl op_21
theorem dX8_swapped_110 : decode cX8_swapped 110 = .ok (.if_icmp .gt 6, 3) := dcTp (j := 7) (v := 6) (f := Instr.if_icmp .gt) sX8_swapped_103 rfl op_163 rfl rfl
theorem dX8_swapped_113 : decode cX8_swapped 113 = .ok (.goto 17, 3) := dcTp (j := 10) (v := 17) (f := Instr.goto) sX8_swapped_103 rfl op_167 rfl rfl
theorem dX8_swapped_116 : decode cX8_swapped 116 = .ok (.iload 9, 2) := dcA (j := 13) (f := Instr.iload) sX8_swapped_103 rfl op_21
theorem dX8_swapped_118 : decode cX8_swapped 118 = .ok (.istore 5, 2) := dcA (j := 15) (f := Instr.istore) sX8_swapped_103 rfl op_54
theorem dX8_swapped_120 : decode cX8_swapped 120 = .ok (.bipush 10, 2) := dcSp (j := 17) (a := 10) (f := Instr.bipush) sX8_swapped_103 rfl op_16 rfl
theorem dX8_swapped_122 : decode cX8_swapped 122 = .ok (.iload 7, 2) := dcA (j := 19) (f := Instr.iload) sX8_swapped_103 rfl op_21
theorem dX8_swapped_124 : decode cX8_swapped 124 = .ok (.imul, 1) := dc0 (j := 21) sX8_swapped_103 rfl op_104
theorem dX8_swapped_125 : decode cX8_swapped 125 = .ok (.iload 8, 2) := dcA (j := 22) (f := Instr.iload) sX8_swapped_103 rfl op_21
theorem dX8_swapped_127 : decode cX8_swapped 127 = .ok (.iadd, 1) := dc0 (j := 24) sX8_swapped_103 rfl op_96
theorem dX8_swapped_128 : decode cX8_swapped 128 = .ok (.istore 6, 2) := dcA (j := 25) (f := Instr.istore) sX8_swapped_103 rfl op_54
theorem dX8_swapped_130 : decode cX8_swapped 130 = .ok (.iinc 8 1, 3) := dcIp (j := 27) sX8_swapped_103 rfl op_132 rfl
theorem dX8_swapped_133 : decode cX8_swapped 133 = .ok (.goto (-67), 3) := dcTn (j := 30) (v := 67) (f := Instr.goto) sX8_swapped_103 rfl op_167 rfl rfl rfl
theorem dX8_swapped_136 : decode cX8_swapped 136 = .ok (.iinc 7 1, 3) := dcIp (j := 33) sX8_swapped_103 rfl op_132 rfl
theorem sX8_swapped_139 : sgm cX8_swapped 139 [167, 255, 166, 28, 154, 0, 8, 21, 5, 167, 0, 5, 21, 6, 172] := by decide +kernel
theorem dX8_swapped_139 : decode cX8_swapped 139 = .ok (.goto (-90), 3) := dcTn (j := 0) (v := 90) (f := Instr.goto) sX8_swapped_139 rfl op_167 rfl rfl rfl
theorem dX8_swapped_142 : decode cX8_swapped 142 = .ok (.iload_n 2, 1) := dc0 (j := 3) sX8_swapped_139 rfl op_28
theorem dX8_swapped_143 : decode cX8_swapped 143 = .ok (.ifCond .ne 8, 3) := dcTp (j := 4) (v := 8) (f := Instr.ifCond .ne) sX8_swapped_139 rfl op_154 rfl rfl
theorem dX8_swapped_146 : decode cX8_swapped 146 = .ok (.iload 5, 2) := dcA (j := 7) (f := Instr.iload) sX8_swapped_139 rfl op_21
theorem dX8_swapped_148 : decode cX8_swapped 148 = .ok (.goto 5, 3) := dcTp (j := 9) (v := 5) (f := Instr.goto) sX8_swapped_139 rfl op_167 rfl rfl
theorem dX8_swapped_151 : decode cX8_swapped 151 = .ok (.iload 6, 2) := dcA (j := 12) (f := Instr.iload) sX8_swapped_139 rfl op_21
theorem dX8_swapped_153 : decode cX8_swapped 153 = .ok (.ireturn, 1) := dc0 (j := 14) sX8_swapped_139 rfl op_172
theorem sX8_when_0 : sgm cX8_when 0 [42, 3, 181, 0, 1, 42, 27, 182, 0, 148, 154, 0, 6, 16, 254, 172, 42, 182, 0, 200, 3, 61, 28, 17, 1, 44, 163, 0, 26, 42, 27, 182, 0, 153] := by decide +kernel
theorem dX8_when_0 : decode cX8_when 0 = .ok (.aload_n 0, 1) := dc0 (j := 0) sX8_when_0 rfl op_42
theorem dX8_when_1 : decode cX8_when 1 = .ok (.iconst 0, 1) := dc0 (j := 1) sX8_when_0 rfl op_3
theorem dX8_when_2 : decode cX8_when 2 = .ok (.putfield 1, 3) := dcB (j := 2) (f := Instr.putfield) sX8_when_0 rfl op_181 rfl
theorem dX8_when_5 : decode cX8_when 5 = .ok (.aload_n 0, 1) := dc0 (j := 5) sX8_when_0 rfl op_42
theorem dX8_when_6 : decode cX8_when 6 = .ok (.iload_n 1, 1) := dc0 (j := 6) sX8_when_0 rfl op_27
theorem dX8_when_7 : decode cX8_when 7 = .ok (.invokevirtual 148, 3) := dcB (j := 7) (f := Instr.invokevirtual) sX8_when_0 rfl op_182 rfl
theorem dX8_when_10 : decode cX8_when 10 = .ok (.ifCond .ne 6, 3) := dcTp (j := 10) (v := 6) (f := Instr.ifCond .ne) sX8_when_0 rfl op_154 rfl rfl
theorem dX8_when_13 : decode cX8_when 13 = .ok (.bipush (-2), 2) := dcSn (j := 13) (v := 2) (f := Instr.bipush) sX8_when_0 rfl op_16 rfl rfl rfl
theorem dX8_when_15 : decode cX8_when 15 = .ok (.ireturn, 1) := dc0 (j := 15) sX8_when_0 rfl op_172
theorem dX8_when_16 : decode cX8_when 16 = .ok (.aload_n 0, 1) := dc0 (j := 16) sX8_when_0 rfl op_42
theorem dX8_when_17 : decode cX8_when 17 = .ok (.invokevirtual 200, 3) := dcB (j := 17) (f := Instr.invokevirtual) sX8_when_0 rfl op_182 rfl
theorem dX8_when_20 : decode cX8_when 20 = .ok (.iconst 0, 1) := dc0 (j := 20) sX8_when_0 rfl op_3
theorem dX8_when_21 : decode cX8_when 21 = .ok (.istore_n 2, 1) := dc0 (j := 21) sX8_when_0 rfl op_61
theorem dX8_when_22 : decode cX8_when 22 = .ok (.iload_n 2, 1) := dc0 (j := 22) sX8_when_0 rfl op_28
theorem dX8_when_23 : decode cX8_when 23 = .ok (.sipush 300, 3) := dcTp (j := 23) (v := 300) (f := Instr.sipush) sX8_when_0 rfl op_17 rfl rfl
theorem dX8_when_26 : decode cX8_when 26 = .ok (.if_icmp .gt 26, 3) := dcTp (j := 26) (v := 26) (f := Instr.if_icmp .gt) sX8_when_0 rfl op_163 rfl rfl
theorem dX8_when_29 : decode cX8_when 29 = .ok (.aload_n 0, 1) := dc0 (j := 29) sX8_when_0 rfl op_42
theorem dX8_when_30 : decode cX8_when 30 = .ok (.iload_n 1, 1) := dc0 (j := 30) sX8_when_0 rfl op_27
theorem dX8_when_31 : decode cX8_when 31 = .ok (.invokevirtual 153, 3) := dcB (j := 31) (f := Instr.invokevirtual) sX8_when_0 rfl op_182 rfl
theorem sX8_when_34 : sgm cX8_when 34 [154, 0, 18, 42, 4, 2, 2, 3, 182, 0, 212, 87, 132, 2, 1, 167, 255, 229, 42, 182, 0, 209, 28, 17, 1, 44, 164, 0, 7, 2, 167, 0, 4, 28, 172] := by decide +kernel
theorem dX8_when_34 : decode cX8_when 34 = .ok (.ifCond .ne 18, 3) := dcTp (j := 0) (v := 18) (f := Instr.ifCond .ne) sX8_when_34 rfl op_154 rfl rfl
theorem dX8_when_37 : decode cX8_when 37 = .ok (.aload_n 0, 1) := dc0 (j := 3) sX8_when_34 rfl op_42
theorem dX8_when_38 : decode cX8_when 38 = .ok (.iconst 1, 1) := dc0 (j := 4) sX8_when_34 rfl op_4
theorem dX8_when_39 : decode cX8_when 39 = .ok (.iconst (-1), 1) := dc0 (j := 5) sX8_when_34 rfl op_2
theorem dX8_when_40 : decode cX8_when 40 = .ok (.iconst (-1), 1) := dc0 (j := 6) sX8_when_34 rfl op_2
theorem dX8_when_41 : decode cX8_when 41 = .ok (.iconst 0, 1) := dc0 (j := 7) sX8_when_34 rfl op_3
theorem dX8_when_42 : decode cX8_when 42 = .ok (.invokevirtual 212, 3) := dcB (j := 8) (f := Instr.invokevirtual) sX8_when_34 rfl op_182 rfl
theorem dX8_when_45 : decode cX8_when 45 = .ok (.pop, 1) := dc0 (j := 11) sX8_when_34 rfl op_87
theorem dX8_when_46 : decode cX8_when 46 = .ok (.iinc 2 1, 3) := dcIp (j := 12) sX8_when_34 rfl op_132 rfl
theorem dX8_when_49 : decode cX8_when 49 = .ok (.goto (-27), 3) := dcTn (j := 15) (v := 27) (f := Instr.goto) sX8_when_34 rfl op_167 rfl rfl rfl
theorem dX8_when_52 : decode cX8_when 52 = .ok (.aload_n 0, 1) := dc0 (j := 18) sX8_when_34 rfl op_42
theorem dX8_when_53 : decode cX8_when 53 = .ok (.invokevirtual 209, 3) := dcB (j := 19) (f := Instr.invokevirtual) sX8_when_34 rfl op_182 rfl
theorem dX8_when_56 : decode cX8_when 56 = .ok (.iload_n 2, 1) := dc0 (j := 22) sX8_when_34 rfl op_28
theorem dX8_when_57 : decode cX8_when 57 = .ok (.sipush 300, 3) := dcTp (j := 23) (v := 300) (f := Instr.sipush) sX8_when_34 rfl op_17 rfl rfl
theorem dX8_when_60 : decode cX8_when 60 = .ok (.if_icmp .le 7, 3) := dcTp (j := 26) (v := 7) (f := Instr.if_icmp .le) sX8_when_34 rfl op_164 rfl rfl
theorem dX8_when_63 : decode cX8_when 63 = .ok (.iconst (-1), 1) := dc0 (j := 29) sX8_when_34 rfl op_2
theorem dX8_when_64 : decode cX8_when 64 = .ok (.goto 4, 3) := dcTp (j := 30) (v := 4) (f := Instr.goto) sX8_when_34 rfl op_167 rfl rfl
theorem dX8_when_67 : decode cX8_when 67 = .ok (.iload_n 2, 1) := dc0 (j := 33) sX8_when_34 rfl op_28
theorem dX8_when_68 : decode cX8_when 68 = .ok (.ireturn, 1) := dc0 (j := 34) sX8_when_34 rfl op_172
theorem sX8_warm_0 : sgm cX8_warm 0 [42, 3, 181, 0, 1, 42, 27, 182, 0, 148, 154, 0, 6, 16, 254, 172, 28, 133, 9, 20, 0, 215, 184, 0, 124, 154, 0, 6, 16, 253, 172, 42, 180, 0, 13] := by decide +kernel
theorem dX8_warm_0 : decode cX8_warm 0 = .ok (.aload_n 0, 1) := dc0 (j := 0) sX8_warm_0 rfl op_42
theorem dX8_warm_1 : decode cX8_warm 1 = .ok (.iconst 0, 1) := dc0 (j := 1) sX8_warm_0 rfl op_3
theorem dX8_warm_2 : decode cX8_warm 2 = .ok (.putfield 1, 3) := dcB (j := 2) (f := Instr.putfield) sX8_warm_0 rfl op_181 rfl
theorem dX8_warm_5 : decode cX8_warm 5 = .ok (.aload_n 0, 1) := dc0 (j := 5) sX8_warm_0 rfl op_42
theorem dX8_warm_6 : decode cX8_warm 6 = .ok (.iload_n 1, 1) := dc0 (j := 6) sX8_warm_0 rfl op_27
theorem dX8_warm_7 : decode cX8_warm 7 = .ok (.invokevirtual 148, 3) := dcB (j := 7) (f := Instr.invokevirtual) sX8_warm_0 rfl op_182 rfl
theorem dX8_warm_10 : decode cX8_warm 10 = .ok (.ifCond .ne 6, 3) := dcTp (j := 10) (v := 6) (f := Instr.ifCond .ne) sX8_warm_0 rfl op_154 rfl rfl
theorem dX8_warm_13 : decode cX8_warm 13 = .ok (.bipush (-2), 2) := dcSn (j := 13) (v := 2) (f := Instr.bipush) sX8_warm_0 rfl op_16 rfl rfl rfl
theorem dX8_warm_15 : decode cX8_warm 15 = .ok (.ireturn, 1) := dc0 (j := 15) sX8_warm_0 rfl op_172
theorem dX8_warm_16 : decode cX8_warm 16 = .ok (.iload_n 2, 1) := dc0 (j := 16) sX8_warm_0 rfl op_28
theorem dX8_warm_17 : decode cX8_warm 17 = .ok (.i2l, 1) := dc0 (j := 17) sX8_warm_0 rfl op_133
theorem dX8_warm_18 : decode cX8_warm 18 = .ok (.lconst 0, 1) := dc0 (j := 18) sX8_warm_0 rfl op_9
theorem dX8_warm_19 : decode cX8_warm 19 = .ok (.ldc2_w 215, 3) := dcB (j := 19) (f := Instr.ldc2_w) sX8_warm_0 rfl op_20 rfl
theorem dX8_warm_22 : decode cX8_warm 22 = .ok (.invokestatic 124, 3) := dcB (j := 22) (f := Instr.invokestatic) sX8_warm_0 rfl op_184 rfl
theorem dX8_warm_25 : decode cX8_warm 25 = .ok (.ifCond .ne 6, 3) := dcTp (j := 25) (v := 6) (f := Instr.ifCond .ne) sX8_warm_0 rfl op_154 rfl rfl
theorem dX8_warm_28 : decode cX8_warm 28 = .ok (.bipush (-3), 2) := dcSn (j := 28) (v := 3) (f := Instr.bipush) sX8_warm_0 rfl op_16 rfl rfl rfl
theorem dX8_warm_30 : decode cX8_warm 30 = .ok (.ireturn, 1) := dc0 (j := 30) sX8_warm_0 rfl op_172
theorem dX8_warm_31 : decode cX8_warm 31 = .ok (.aload_n 0, 1) := dc0 (j := 31) sX8_warm_0 rfl op_42
theorem dX8_warm_32 : decode cX8_warm 32 = .ok (.getfield 13, 3) := dcB (j := 32) (f := Instr.getfield) sX8_warm_0 rfl op_180 rfl
theorem sX8_warm_35 : sgm cX8_warm 35 [16, 14, 27, 96, 46, 116, 62, 3, 54, 4, 21, 4, 42, 180, 0, 13, 3, 46, 162, 0, 39, 29, 42, 180, 0, 13, 16, 84, 21, 4, 96, 46, 27, 160, 0, 15] := by decide +kernel
theorem dX8_warm_35 : decode cX8_warm 35 = .ok (.bipush 14, 2) := dcSp (j := 0) (a := 14) (f := Instr.bipush) sX8_warm_35 rfl op_16 rfl
theorem dX8_warm_37 : decode cX8_warm 37 = .ok (.iload_n 1, 1) := dc0 (j := 2) sX8_warm_35 rfl op_27
theorem dX8_warm_38 : decode cX8_warm 38 = .ok (.iadd, 1) := dc0 (j := 3) sX8_warm_35 rfl op_96
theorem dX8_warm_39 : decode cX8_warm 39 = .ok (.iaload, 1) := dc0 (j := 4) sX8_warm_35 rfl op_46
theorem dX8_warm_40 : decode cX8_warm 40 = .ok (.ineg, 1) := dc0 (j := 5) sX8_warm_35 rfl op_116
theorem dX8_warm_41 : decode cX8_warm 41 = .ok (.istore_n 3, 1) := dc0 (j := 6) sX8_warm_35 rfl op_62
theorem dX8_warm_42 : decode cX8_warm 42 = .ok (.iconst 0, 1) := dc0 (j := 7) sX8_warm_35 rfl op_3
theorem dX8_warm_43 : decode cX8_warm 43 = .ok (.istore 4, 2) := dcA (j := 8) (f := Instr.istore) sX8_warm_35 rfl op_54
theorem dX8_warm_45 : decode cX8_warm 45 = .ok (.iload 4, 2) := dcA (j := 10) (f := Instr.iload) sX8_warm_35 rfl op_21
theorem dX8_warm_47 : decode cX8_warm 47 = .ok (.aload_n 0, 1) := dc0 (j := 12) sX8_warm_35 rfl op_42
theorem dX8_warm_48 : decode cX8_warm 48 = .ok (.getfield 13, 3) := dcB (j := 13) (f := Instr.getfield) sX8_warm_35 rfl op_180 rfl
theorem dX8_warm_51 : decode cX8_warm 51 = .ok (.iconst 0, 1) := dc0 (j := 16) sX8_warm_35 rfl op_3
theorem dX8_warm_52 : decode cX8_warm 52 = .ok (.iaload, 1) := dc0 (j := 17) sX8_warm_35 rfl op_46
theorem dX8_warm_53 : decode cX8_warm 53 = .ok (.if_icmp .ge 39, 3) := dcTp (j := 18) (v := 39) (f := Instr.if_icmp .ge) sX8_warm_35 rfl op_162 rfl rfl
theorem dX8_warm_56 : decode cX8_warm 56 = .ok (.iload_n 3, 1) := dc0 (j := 21) sX8_warm_35 rfl op_29
theorem dX8_warm_57 : decode cX8_warm 57 = .ok (.aload_n 0, 1) := dc0 (j := 22) sX8_warm_35 rfl op_42
theorem dX8_warm_58 : decode cX8_warm 58 = .ok (.getfield 13, 3) := dcB (j := 23) (f := Instr.getfield) sX8_warm_35 rfl op_180 rfl
theorem dX8_warm_61 : decode cX8_warm 61 = .ok (.bipush 84, 2) := dcSp (j := 26) (a := 84) (f := Instr.bipush) sX8_warm_35 rfl op_16 rfl
theorem dX8_warm_63 : decode cX8_warm 63 = .ok (.iload 4, 2) := dcA (j := 28) (f := Instr.iload) sX8_warm_35 rfl op_21
theorem dX8_warm_65 : decode cX8_warm 65 = .ok (.iadd, 1) := dc0 (j := 30) sX8_warm_35 rfl op_96
theorem dX8_warm_66 : decode cX8_warm 66 = .ok (.iaload, 1) := dc0 (j := 31) sX8_warm_35 rfl op_46
theorem dX8_warm_67 : decode cX8_warm 67 = .ok (.iload_n 1, 1) := dc0 (j := 32) sX8_warm_35 rfl op_27
theorem dX8_warm_68 : decode cX8_warm 68 = .ok (.if_icmp .ne 15, 3) := dcTp (j := 33) (v := 15) (f := Instr.if_icmp .ne) sX8_warm_35 rfl op_160 rfl rfl
theorem sX8_warm_71 : sgm cX8_warm 71 [42, 180, 0, 13, 7, 21, 4, 96, 46, 167, 0, 4, 3, 96, 62, 132, 4, 1, 167, 255, 212, 42, 180, 0, 13, 16, 24, 27, 96, 46, 54, 4, 3, 54, 5] := by decide +kernel
theorem dX8_warm_71 : decode cX8_warm 71 = .ok (.aload_n 0, 1) := dc0 (j := 0) sX8_warm_71 rfl op_42
theorem dX8_warm_72 : decode cX8_warm 72 = .ok (.getfield 13, 3) := dcB (j := 1) (f := Instr.getfield) sX8_warm_71 rfl op_180 rfl
theorem dX8_warm_75 : decode cX8_warm 75 = .ok (.iconst 4, 1) := dc0 (j := 4) sX8_warm_71 rfl op_7
theorem dX8_warm_76 : decode cX8_warm 76 = .ok (.iload 4, 2) := dcA (j := 5) (f := Instr.iload) sX8_warm_71 rfl op_21
theorem dX8_warm_78 : decode cX8_warm 78 = .ok (.iadd, 1) := dc0 (j := 7) sX8_warm_71 rfl op_96
theorem dX8_warm_79 : decode cX8_warm 79 = .ok (.iaload, 1) := dc0 (j := 8) sX8_warm_71 rfl op_46
theorem dX8_warm_80 : decode cX8_warm 80 = .ok (.goto 4, 3) := dcTp (j := 9) (v := 4) (f := Instr.goto) sX8_warm_71 rfl op_167 rfl rfl
theorem dX8_warm_83 : decode cX8_warm 83 = .ok (.iconst 0, 1) := dc0 (j := 12) sX8_warm_71 rfl op_3
theorem dX8_warm_84 : decode cX8_warm 84 = .ok (.iadd, 1) := dc0 (j := 13) sX8_warm_71 rfl op_96
theorem dX8_warm_85 : decode cX8_warm 85 = .ok (.istore_n 3, 1) := dc0 (j := 14) sX8_warm_71 rfl op_62
theorem dX8_warm_86 : decode cX8_warm 86 = .ok (.iinc 4 1, 3) := dcIp (j := 15) sX8_warm_71 rfl op_132 rfl
theorem dX8_warm_89 : decode cX8_warm 89 = .ok (.goto (-44), 3) := dcTn (j := 18) (v := 44) (f := Instr.goto) sX8_warm_71 rfl op_167 rfl rfl rfl
theorem dX8_warm_92 : decode cX8_warm 92 = .ok (.aload_n 0, 1) := dc0 (j := 21) sX8_warm_71 rfl op_42
theorem dX8_warm_93 : decode cX8_warm 93 = .ok (.getfield 13, 3) := dcB (j := 22) (f := Instr.getfield) sX8_warm_71 rfl op_180 rfl
theorem dX8_warm_96 : decode cX8_warm 96 = .ok (.bipush 24, 2) := dcSp (j := 25) (a := 24) (f := Instr.bipush) sX8_warm_71 rfl op_16 rfl
theorem dX8_warm_98 : decode cX8_warm 98 = .ok (.iload_n 1, 1) := dc0 (j := 27) sX8_warm_71 rfl op_27
theorem dX8_warm_99 : decode cX8_warm 99 = .ok (.iadd, 1) := dc0 (j := 28) sX8_warm_71 rfl op_96
theorem dX8_warm_100 : decode cX8_warm 100 = .ok (.iaload, 1) := dc0 (j := 29) sX8_warm_71 rfl op_46
theorem dX8_warm_101 : decode cX8_warm 101 = .ok (.istore 4, 2) := dcA (j := 30) (f := Instr.istore) sX8_warm_71 rfl op_54
theorem dX8_warm_103 : decode cX8_warm 103 = .ok (.iconst 0, 1) := dc0 (j := 32) sX8_warm_71 rfl op_3
theorem dX8_warm_104 : decode cX8_warm 104 = .ok (.istore 5, 2) := dcA (j := 33) (f := Instr.istore) sX8_warm_71 rfl op_54
theorem sX8_warm_106 : sgm cX8_warm 106 [21, 4, 28, 162, 0, 24, 29, 157, 0, 5, 2, 172, 21, 4, 29, 96, 184, 0, 167, 54, 4, 132, 5, 1, 167, 255, 232, 21, 5, 172] := by decide +kernel
theorem dX8_warm_106 : decode cX8_warm 106 = .ok (.iload 4, 2) := dcA (j := 0) (f := Instr.iload) sX8_warm_106 rfl op_21
theorem dX8_warm_108 : decode cX8_warm 108 = .ok (.iload_n 2, 1) := dc0 (j := 2) sX8_warm_106 rfl op_28
theorem dX8_warm_109 : decode cX8_warm 109 = .ok (.if_icmp .ge 24, 3) := dcTp (j := 3) (v := 24) (f := Instr.if_icmp .ge) sX8_warm_106 rfl op_162 rfl rfl
theorem dX8_warm_112 : decode cX8_warm 112 = .ok (.iload_n 3, 1) := dc0 (j := 6) sX8_warm_106 rfl op_29
theorem dX8_warm_113 : decode cX8_warm 113 = .ok (.ifCond .gt 5, 3) := dcTp (j := 7) (v := 5) (f := Instr.ifCond .gt) sX8_warm_106 rfl op_157 rfl rfl
theorem dX8_warm_116 : decode cX8_warm 116 = .ok (.iconst (-1), 1) := dc0 (j := 10) sX8_warm_106 rfl op_2
theorem dX8_warm_117 : decode cX8_warm 117 = .ok (.ireturn, 1) := dc0 (j := 11) sX8_warm_106 rfl op_172
theorem dX8_warm_118 : decode cX8_warm 118 = .ok (.iload 4, 2) := dcA (j := 12) (f := Instr.iload) sX8_warm_106 rfl op_21
theorem dX8_warm_120 : decode cX8_warm 120 = .ok (.iload_n 3, 1) := dc0 (j := 14) sX8_warm_106 rfl op_29
theorem dX8_warm_121 : decode cX8_warm 121 = .ok (.iadd, 1) := dc0 (j := 15) sX8_warm_106 rfl op_96
theorem dX8_warm_122 : decode cX8_warm 122 = .ok (.invokestatic 167, 3) := dcB (j := 16) (f := Instr.invokestatic) sX8_warm_106 rfl op_184 rfl
theorem dX8_warm_125 : decode cX8_warm 125 = .ok (.istore 4, 2) := dcA (j := 19) (f := Instr.istore) sX8_warm_106 rfl op_54
theorem dX8_warm_127 : decode cX8_warm 127 = .ok (.iinc 5 1, 3) := dcIp (j := 21) sX8_warm_106 rfl op_132 rfl
theorem dX8_warm_130 : decode cX8_warm 130 = .ok (.goto (-24), 3) := dcTn (j := 24) (v := 24) (f := Instr.goto) sX8_warm_106 rfl op_167 rfl rfl rfl
theorem dX8_warm_133 : decode cX8_warm 133 = .ok (.iload 5, 2) := dcA (j := 27) (f := Instr.iload) sX8_warm_106 rfl op_21
theorem dX8_warm_135 : decode cX8_warm 135 = .ok (.ireturn, 1) := dc0 (j := 29) sX8_warm_106 rfl op_172
theorem sX8_cold_0 : sgm cX8_cold 0 [42, 3, 181, 0, 1, 42, 27, 182, 0, 148, 154, 0, 6, 16, 254, 172, 42, 180, 0, 13, 16, 24, 27, 96, 46, 61, 3, 62, 28, 42, 180, 0, 13, 16, 34, 27] := by decide +kernel
theorem dX8_cold_0 : decode cX8_cold 0 = .ok (.aload_n 0, 1) := dc0 (j := 0) sX8_cold_0 rfl op_42
theorem dX8_cold_1 : decode cX8_cold 1 = .ok (.iconst 0, 1) := dc0 (j := 1) sX8_cold_0 rfl op_3
theorem dX8_cold_2 : decode cX8_cold 2 = .ok (.putfield 1, 3) := dcB (j := 2) (f := Instr.putfield) sX8_cold_0 rfl op_181 rfl
theorem dX8_cold_5 : decode cX8_cold 5 = .ok (.aload_n 0, 1) := dc0 (j := 5) sX8_cold_0 rfl op_42
theorem dX8_cold_6 : decode cX8_cold 6 = .ok (.iload_n 1, 1) := dc0 (j := 6) sX8_cold_0 rfl op_27
theorem dX8_cold_7 : decode cX8_cold 7 = .ok (.invokevirtual 148, 3) := dcB (j := 7) (f := Instr.invokevirtual) sX8_cold_0 rfl op_182 rfl
theorem dX8_cold_10 : decode cX8_cold 10 = .ok (.ifCond .ne 6, 3) := dcTp (j := 10) (v := 6) (f := Instr.ifCond .ne) sX8_cold_0 rfl op_154 rfl rfl
theorem dX8_cold_13 : decode cX8_cold 13 = .ok (.bipush (-2), 2) := dcSn (j := 13) (v := 2) (f := Instr.bipush) sX8_cold_0 rfl op_16 rfl rfl rfl
theorem dX8_cold_15 : decode cX8_cold 15 = .ok (.ireturn, 1) := dc0 (j := 15) sX8_cold_0 rfl op_172
theorem dX8_cold_16 : decode cX8_cold 16 = .ok (.aload_n 0, 1) := dc0 (j := 16) sX8_cold_0 rfl op_42
theorem dX8_cold_17 : decode cX8_cold 17 = .ok (.getfield 13, 3) := dcB (j := 17) (f := Instr.getfield) sX8_cold_0 rfl op_180 rfl
theorem dX8_cold_20 : decode cX8_cold 20 = .ok (.bipush 24, 2) := dcSp (j := 20) (a := 24) (f := Instr.bipush) sX8_cold_0 rfl op_16 rfl
theorem dX8_cold_22 : decode cX8_cold 22 = .ok (.iload_n 1, 1) := dc0 (j := 22) sX8_cold_0 rfl op_27
theorem dX8_cold_23 : decode cX8_cold 23 = .ok (.iadd, 1) := dc0 (j := 23) sX8_cold_0 rfl op_96
theorem dX8_cold_24 : decode cX8_cold 24 = .ok (.iaload, 1) := dc0 (j := 24) sX8_cold_0 rfl op_46
theorem dX8_cold_25 : decode cX8_cold 25 = .ok (.istore_n 2, 1) := dc0 (j := 25) sX8_cold_0 rfl op_61
theorem dX8_cold_26 : decode cX8_cold 26 = .ok (.iconst 0, 1) := dc0 (j := 26) sX8_cold_0 rfl op_3
theorem dX8_cold_27 : decode cX8_cold 27 = .ok (.istore_n 3, 1) := dc0 (j := 27) sX8_cold_0 rfl op_62
theorem dX8_cold_28 : decode cX8_cold 28 = .ok (.iload_n 2, 1) := dc0 (j := 28) sX8_cold_0 rfl op_28
theorem dX8_cold_29 : decode cX8_cold 29 = .ok (.aload_n 0, 1) := dc0 (j := 29) sX8_cold_0 rfl op_42
theorem dX8_cold_30 : decode cX8_cold 30 = .ok (.getfield 13, 3) := dcB (j := 30) (f := Instr.getfield) sX8_cold_0 rfl op_180 rfl
theorem dX8_cold_33 : decode cX8_cold 33 = .ok (.bipush 34, 2) := dcSp (j := 33) (a := 34) (f := Instr.bipush) sX8_cold_0 rfl op_16 rfl
theorem dX8_cold_35 : decode cX8_cold 35 = .ok (.iload_n 1, 1) := dc0 (j := 35) sX8_cold_0 rfl op_27
theorem sX8_cold_36 : sgm cX8_cold 36 [96, 46, 161, 0, 42, 42, 180, 0, 13, 16, 14, 27, 96, 46, 153, 0, 7, 28, 154, 0, 5, 2, 172, 28, 42, 180, 0, 13, 16, 14, 27, 96, 46, 100] := by decide +kernel
theorem dX8_cold_36 : decode cX8_cold 36 = .ok (.iadd, 1) := dc0 (j := 0) sX8_cold_36 rfl op_96
theorem dX8_cold_37 : decode cX8_cold 37 = .ok (.iaload, 1) := dc0 (j := 1) sX8_cold_36 rfl op_46
theorem dX8_cold_38 : decode cX8_cold 38 = .ok (.if_icmp .lt 42, 3) := dcTp (j := 2) (v := 42) (f := Instr.if_icmp .lt) sX8_cold_36 rfl op_161 rfl rfl
theorem dX8_cold_41 : decode cX8_cold 41 = .ok (.aload_n 0, 1) := dc0 (j := 5) sX8_cold_36 rfl op_42
theorem dX8_cold_42 : decode cX8_cold 42 = .ok (.getfield 13, 3) := dcB (j := 6) (f := Instr.getfield) sX8_cold_36 rfl op_180 rfl
theorem dX8_cold_45 : decode cX8_cold 45 = .ok (.bipush 14, 2) := dcSp (j := 9) (a := 14) (f := Instr.bipush) sX8_cold_36 rfl op_16 rfl
theorem dX8_cold_47 : decode cX8_cold 47 = .ok (.iload_n 1, 1) := dc0 (j := 11) sX8_cold_36 rfl op_27
theorem dX8_cold_48 : decode cX8_cold 48 = .ok (.iadd, 1) := dc0 (j := 12) sX8_cold_36 rfl op_96
theorem dX8_cold_49 : decode cX8_cold 49 = .ok (.iaload, 1) := dc0 (j := 13) sX8_cold_36 rfl op_46
theorem dX8_cold_50 : decode cX8_cold 50 = .ok (.ifCond .eq 7, 3) := dcTp (j := 14) (v := 7) (f := Instr.ifCond .eq) sX8_cold_36 rfl op_153 rfl rfl
theorem dX8_cold_53 : decode cX8_cold 53 = .ok (.iload_n 2, 1) := dc0 (j := 17) sX8_cold_36 rfl op_28
theorem dX8_cold_54 : decode cX8_cold 54 = .ok (.ifCond .ne 5, 3) := dcTp (j := 18) (v := 5) (f := Instr.ifCond .ne) sX8_cold_36 rfl op_154 rfl rfl
theorem dX8_cold_57 : decode cX8_cold 57 = .ok (.iconst (-1), 1) := dc0 (j := 21) sX8_cold_36 rfl op_2
theorem dX8_cold_58 : decode cX8_cold 58 = .ok (.ireturn, 1) := dc0 (j := 22) sX8_cold_36 rfl op_172
theorem dX8_cold_59 : decode cX8_cold 59 = .ok (.iload_n 2, 1) := dc0 (j := 23) sX8_cold_36 rfl op_28
theorem dX8_cold_60 : decode cX8_cold 60 = .ok (.aload_n 0, 1) := dc0 (j := 24) sX8_cold_36 rfl op_42
theorem dX8_cold_61 : decode cX8_cold 61 = .ok (.getfield 13, 3) := dcB (j := 25) (f := Instr.getfield) sX8_cold_36 rfl op_180 rfl
theorem dX8_cold_64 : decode cX8_cold 64 = .ok (.bipush 14, 2) := dcSp (j := 28) (a := 14) (f := Instr.bipush) sX8_cold_36 rfl op_16 rfl
theorem dX8_cold_66 : decode cX8_cold 66 = .ok (.iload_n 1, 1) := dc0 (j := 30) sX8_cold_36 rfl op_27
theorem dX8_cold_67 : decode cX8_cold 67 = .ok (.iadd, 1) := dc0 (j := 31) sX8_cold_36 rfl op_96
theorem dX8_cold_68 : decode cX8_cold 68 = .ok (.iaload, 1) := dc0 (j := 32) sX8_cold_36 rfl op_46
theorem dX8_cold_69 : decode cX8_cold 69 = .ok (.isub, 1) := dc0 (j := 33) sX8_cold_36 rfl op_100
theorem sX8_cold_70 : sgm cX8_cold 70 [184, 0, 167, 61, 132, 3, 1, 167, 255, 207, 29, 172] := by decide +kernel
theorem dX8_cold_70 : decode cX8_cold 70 = .ok (.invokestatic 167, 3) := dcB (j := 0) (f := Instr.invokestatic) sX8_cold_70 rfl op_184 rfl
theorem dX8_cold_73 : decode cX8_cold 73 = .ok (.istore_n 2, 1) := dc0 (j := 3) sX8_cold_70 rfl op_61
theorem dX8_cold_74 : decode cX8_cold 74 = .ok (.iinc 3 1, 3) := dcIp (j := 4) sX8_cold_70 rfl op_132 rfl
theorem dX8_cold_77 : decode cX8_cold 77 = .ok (.goto (-49), 3) := dcTn (j := 7) (v := 49) (f := Instr.goto) sX8_cold_70 rfl op_167 rfl rfl rfl
theorem dX8_cold_80 : decode cX8_cold 80 = .ok (.iload_n 3, 1) := dc0 (j := 10) sX8_cold_70 rfl op_29
theorem dX8_cold_81 : decode cX8_cold 81 = .ok (.ireturn, 1) := dc0 (j := 11) sX8_cold_70 rfl op_172
theorem sX8_cut_0 : sgm cX8_cut 0 [28, 154, 0, 10, 30, 136, 145, 133, 167, 0, 27, 28, 4, 160, 0, 10, 30, 136, 147, 133, 167, 0, 15, 28, 5, 160, 0, 9, 30, 136, 133, 167, 0, 4, 30, 173] := by decide +kernel
theorem dX8_cut_0 : decode cX8_cut 0 = .ok (.iload_n 2, 1) := dc0 (j := 0) sX8_cut_0 rfl op_28
theorem dX8_cut_1 : decode cX8_cut 1 = .ok (.ifCond .ne 10, 3) := dcTp (j := 1) (v := 10) (f := Instr.ifCond .ne) sX8_cut_0 rfl op_154 rfl rfl
theorem dX8_cut_4 : decode cX8_cut 4 = .ok (.lload_n 0, 1) := dc0 (j := 4) sX8_cut_0 rfl op_30
theorem dX8_cut_5 : decode cX8_cut 5 = .ok (.l2i, 1) := dc0 (j := 5) sX8_cut_0 rfl op_136
theorem dX8_cut_6 : decode cX8_cut 6 = .ok (.i2b, 1) := dc0 (j := 6) sX8_cut_0 rfl op_145
theorem dX8_cut_7 : decode cX8_cut 7 = .ok (.i2l, 1) := dc0 (j := 7) sX8_cut_0 rfl op_133
theorem dX8_cut_8 : decode cX8_cut 8 = .ok (.goto 27, 3) := dcTp (j := 8) (v := 27) (f := Instr.goto) sX8_cut_0 rfl op_167 rfl rfl
theorem dX8_cut_11 : decode cX8_cut 11 = .ok (.iload_n 2, 1) := dc0 (j := 11) sX8_cut_0 rfl op_28
theorem dX8_cut_12 : decode cX8_cut 12 = .ok (.iconst 1, 1) := dc0 (j := 12) sX8_cut_0 rfl op_4
theorem dX8_cut_13 : decode cX8_cut 13 = .ok (.if_icmp .ne 10, 3) := dcTp (j := 13) (v := 10) (f := Instr.if_icmp .ne) sX8_cut_0 rfl op_160 rfl rfl
theorem dX8_cut_16 : decode cX8_cut 16 = .ok (.lload_n 0, 1) := dc0 (j := 16) sX8_cut_0 rfl op_30
theorem dX8_cut_17 : decode cX8_cut 17 = .ok (.l2i, 1) := dc0 (j := 17) sX8_cut_0 rfl op_136
theorem dX8_cut_18 : decode cX8_cut 18 = .ok (.i2s, 1) := dc0 (j := 18) sX8_cut_0 rfl op_147
theorem dX8_cut_19 : decode cX8_cut 19 = .ok (.i2l, 1) := dc0 (j := 19) sX8_cut_0 rfl op_133
theorem dX8_cut_20 : decode cX8_cut 20 = .ok (.goto 15, 3) := dcTp (j := 20) (v := 15) (f := Instr.goto) sX8_cut_0 rfl op_167 rfl rfl
theorem dX8_cut_23 : decode cX8_cut 23 = .ok (.iload_n 2, 1) := dc0 (j := 23) sX8_cut_0 rfl op_28
theorem dX8_cut_24 : decode cX8_cut 24 = .ok (.iconst 2, 1) := dc0 (j := 24) sX8_cut_0 rfl op_5
theorem dX8_cut_25 : decode cX8_cut 25 = .ok (.if_icmp .ne 9, 3) := dcTp (j := 25) (v := 9) (f := Instr.if_icmp .ne) sX8_cut_0 rfl op_160 rfl rfl
theorem dX8_cut_28 : decode cX8_cut 28 = .ok (.lload_n 0, 1) := dc0 (j := 28) sX8_cut_0 rfl op_30
theorem dX8_cut_29 : decode cX8_cut 29 = .ok (.l2i, 1) := dc0 (j := 29) sX8_cut_0 rfl op_136
theorem dX8_cut_30 : decode cX8_cut 30 = .ok (.i2l, 1) := dc0 (j := 30) sX8_cut_0 rfl op_133
theorem dX8_cut_31 : decode cX8_cut 31 = .ok (.goto 4, 3) := dcTp (j := 31) (v := 4) (f := Instr.goto) sX8_cut_0 rfl op_167 rfl rfl
theorem dX8_cut_34 : decode cX8_cut 34 = .ok (.lload_n 0, 1) := dc0 (j := 34) sX8_cut_0 rfl op_30
theorem dX8_cut_35 : decode cX8_cut 35 = .ok (.lreturn, 1) := dc0 (j := 35) sX8_cut_0 rfl op_173
theorem sX8_numbers_0 : sgm cX8_numbers 0 [42, 3, 181, 0, 1, 27, 133, 9, 20, 0, 196, 184, 0, 124, 153, 0, 15, 28, 133, 9, 20, 0, 196, 184, 0, 124, 154, 0, 6, 16, 254, 172, 29, 133, 9] := by decide +kernel
theorem dX8_numbers_0 : decode cX8_numbers 0 = .ok (.aload_n 0, 1) := dc0 (j := 0) sX8_numbers_0 rfl op_42
theorem dX8_numbers_1 : decode cX8_numbers 1 = .ok (.iconst 0, 1) := dc0 (j := 1) sX8_numbers_0 rfl op_3
theorem dX8_numbers_2 : decode cX8_numbers 2 = .ok (.putfield 1, 3) := dcB (j := 2) (f := Instr.putfield) sX8_numbers_0 rfl op_181 rfl
theorem dX8_numbers_5 : decode cX8_numbers 5 = .ok (.iload_n 1, 1) := dc0 (j := 5) sX8_numbers_0 rfl op_27
theorem dX8_numbers_6 : decode cX8_numbers 6 = .ok (.i2l, 1) := dc0 (j := 6) sX8_numbers_0 rfl op_133
theorem dX8_numbers_7 : decode cX8_numbers 7 = .ok (.lconst 0, 1) := dc0 (j := 7) sX8_numbers_0 rfl op_9
theorem dX8_numbers_8 : decode cX8_numbers 8 = .ok (.ldc2_w 196, 3) := dcB (j := 8) (f := Instr.ldc2_w) sX8_numbers_0 rfl op_20 rfl
theorem dX8_numbers_11 : decode cX8_numbers 11 = .ok (.invokestatic 124, 3) := dcB (j := 11) (f := Instr.invokestatic) sX8_numbers_0 rfl op_184 rfl
theorem dX8_numbers_14 : decode cX8_numbers 14 = .ok (.ifCond .eq 15, 3) := dcTp (j := 14) (v := 15) (f := Instr.ifCond .eq) sX8_numbers_0 rfl op_153 rfl rfl
theorem dX8_numbers_17 : decode cX8_numbers 17 = .ok (.iload_n 2, 1) := dc0 (j := 17) sX8_numbers_0 rfl op_28
theorem dX8_numbers_18 : decode cX8_numbers 18 = .ok (.i2l, 1) := dc0 (j := 18) sX8_numbers_0 rfl op_133
theorem dX8_numbers_19 : decode cX8_numbers 19 = .ok (.lconst 0, 1) := dc0 (j := 19) sX8_numbers_0 rfl op_9
theorem dX8_numbers_20 : decode cX8_numbers 20 = .ok (.ldc2_w 196, 3) := dcB (j := 20) (f := Instr.ldc2_w) sX8_numbers_0 rfl op_20 rfl
theorem dX8_numbers_23 : decode cX8_numbers 23 = .ok (.invokestatic 124, 3) := dcB (j := 23) (f := Instr.invokestatic) sX8_numbers_0 rfl op_184 rfl
theorem dX8_numbers_26 : decode cX8_numbers 26 = .ok (.ifCond .ne 6, 3) := dcTp (j := 26) (v := 6) (f := Instr.ifCond .ne) sX8_numbers_0 rfl op_154 rfl rfl
theorem dX8_numbers_29 : decode cX8_numbers 29 = .ok (.bipush (-2), 2) := dcSn (j := 29) (v := 2) (f := Instr.bipush) sX8_numbers_0 rfl op_16 rfl rfl rfl
theorem dX8_numbers_31 : decode cX8_numbers 31 = .ok (.ireturn, 1) := dc0 (j := 31) sX8_numbers_0 rfl op_172
theorem dX8_numbers_32 : decode cX8_numbers 32 = .ok (.iload_n 3, 1) := dc0 (j := 32) sX8_numbers_0 rfl op_29
theorem dX8_numbers_33 : decode cX8_numbers 33 = .ok (.i2l, 1) := dc0 (j := 33) sX8_numbers_0 rfl op_133
theorem dX8_numbers_34 : decode cX8_numbers 34 = .ok (.lconst 0, 1) := dc0 (j := 34) sX8_numbers_0 rfl op_9
theorem sX8_numbers_35 : sgm cX8_numbers 35 [20, 1, 62, 184, 0, 124, 154, 0, 6, 16, 253, 172, 42, 180, 0, 55, 27, 28, 79, 42, 180, 0, 58, 27, 29, 79, 3, 54, 4, 21, 4, 29, 162, 0, 22, 42] := by decide +kernel
theorem dX8_numbers_35 : decode cX8_numbers 35 = .ok (.ldc2_w 318, 3) := dcB (j := 0) (f := Instr.ldc2_w) sX8_numbers_35 rfl op_20 rfl
theorem dX8_numbers_38 : decode cX8_numbers 38 = .ok (.invokestatic 124, 3) := dcB (j := 3) (f := Instr.invokestatic) sX8_numbers_35 rfl op_184 rfl
theorem dX8_numbers_41 : decode cX8_numbers 41 = .ok (.ifCond .ne 6, 3) := dcTp (j := 6) (v := 6) (f := Instr.ifCond .ne) sX8_numbers_35 rfl op_154 rfl rfl
theorem dX8_numbers_44 : decode cX8_numbers 44 = .ok (.bipush (-3), 2) := dcSn (j := 9) (v := 3) (f := Instr.bipush) sX8_numbers_35 rfl op_16 rfl rfl rfl
theorem dX8_numbers_46 : decode cX8_numbers 46 = .ok (.ireturn, 1) := dc0 (j := 11) sX8_numbers_35 rfl op_172
theorem dX8_numbers_47 : decode cX8_numbers 47 = .ok (.aload_n 0, 1) := dc0 (j := 12) sX8_numbers_35 rfl op_42
theorem dX8_numbers_48 : decode cX8_numbers 48 = .ok (.getfield 55, 3) := dcB (j := 13) (f := Instr.getfield) sX8_numbers_35 rfl op_180 rfl
theorem dX8_numbers_51 : decode cX8_numbers 51 = .ok (.iload_n 1, 1) := dc0 (j := 16) sX8_numbers_35 rfl op_27
theorem dX8_numbers_52 : decode cX8_numbers 52 = .ok (.iload_n 2, 1) := dc0 (j := 17) sX8_numbers_35 rfl op_28
theorem dX8_numbers_53 : decode cX8_numbers 53 = .ok (.iastore, 1) := dc0 (j := 18) sX8_numbers_35 rfl op_79
theorem dX8_numbers_54 : decode cX8_numbers 54 = .ok (.aload_n 0, 1) := dc0 (j := 19) sX8_numbers_35 rfl op_42
theorem dX8_numbers_55 : decode cX8_numbers 55 = .ok (.getfield 58, 3) := dcB (j := 20) (f := Instr.getfield) sX8_numbers_35 rfl op_180 rfl
theorem dX8_numbers_58 : decode cX8_numbers 58 = .ok (.iload_n 1, 1) := dc0 (j := 23) sX8_numbers_35 rfl op_27
theorem dX8_numbers_59 : decode cX8_numbers 59 = .ok (.iload_n 3, 1) := dc0 (j := 24) sX8_numbers_35 rfl op_29
theorem dX8_numbers_60 : decode cX8_numbers 60 = .ok (.iastore, 1) := dc0 (j := 25) sX8_numbers_35 rfl op_79
theorem dX8_numbers_61 : decode cX8_numbers 61 = .ok (.iconst 0, 1) := dc0 (j := 26) sX8_numbers_35 rfl op_3
theorem dX8_numbers_62 : decode cX8_numbers 62 = .ok (.istore 4, 2) := dcA (j := 27) (f := Instr.istore) sX8_numbers_35 rfl op_54
theorem dX8_numbers_64 : decode cX8_numbers 64 = .ok (.iload 4, 2) := dcA (j := 29) (f := Instr.iload) sX8_numbers_35 rfl op_21
theorem dX8_numbers_66 : decode cX8_numbers 66 = .ok (.iload_n 3, 1) := dc0 (j := 31) sX8_numbers_35 rfl op_29
theorem dX8_numbers_67 : decode cX8_numbers 67 = .ok (.if_icmp .ge 22, 3) := dcTp (j := 32) (v := 22) (f := Instr.if_icmp .ge) sX8_numbers_35 rfl op_162 rfl rfl
theorem dX8_numbers_70 : decode cX8_numbers 70 = .ok (.aload_n 0, 1) := dc0 (j := 35) sX8_numbers_35 rfl op_42
theorem sX8_numbers_71 : sgm cX8_numbers 71 [180, 0, 61, 16, 40, 27, 104, 21, 4, 96, 9, 80, 132, 4, 1, 167, 255, 234, 3, 172] := by decide +kernel
theorem dX8_numbers_71 : decode cX8_numbers 71 = .ok (.getfield 61, 3) := dcB (j := 0) (f := Instr.getfield) sX8_numbers_71 rfl op_180 rfl
theorem dX8_numbers_74 : decode cX8_numbers 74 = .ok (.bipush 40, 2) := dcSp (j := 3) (a := 40) (f := Instr.bipush) sX8_numbers_71 rfl op_16 rfl
theorem dX8_numbers_76 : decode cX8_numbers 76 = .ok (.iload_n 1, 1) := dc0 (j := 5) sX8_numbers_71 rfl op_27
theorem dX8_numbers_77 : decode cX8_numbers 77 = .ok (.imul, 1) := dc0 (j := 6) sX8_numbers_71 rfl op_104
theorem dX8_numbers_78 : decode cX8_numbers 78 = .ok (.iload 4, 2) := dcA (j := 7) (f := Instr.iload) sX8_numbers_71 rfl op_21
theorem dX8_numbers_80 : decode cX8_numbers 80 = .ok (.iadd, 1) := dc0 (j := 9) sX8_numbers_71 rfl op_96
theorem dX8_numbers_81 : decode cX8_numbers 81 = .ok (.lconst 0, 1) := dc0 (j := 10) sX8_numbers_71 rfl op_9
theorem dX8_numbers_82 : decode cX8_numbers 82 = .ok (.lastore, 1) := dc0 (j := 11) sX8_numbers_71 rfl op_80
theorem dX8_numbers_83 : decode cX8_numbers 83 = .ok (.iinc 4 1, 3) := dcIp (j := 12) sX8_numbers_71 rfl op_132 rfl
theorem dX8_numbers_86 : decode cX8_numbers 86 = .ok (.goto (-22), 3) := dcTn (j := 15) (v := 22) (f := Instr.goto) sX8_numbers_71 rfl op_167 rfl rfl rfl
theorem dX8_numbers_89 : decode cX8_numbers 89 = .ok (.iconst 0, 1) := dc0 (j := 18) sX8_numbers_71 rfl op_3
theorem dX8_numbers_90 : decode cX8_numbers 90 = .ok (.ireturn, 1) := dc0 (j := 19) sX8_numbers_71 rfl op_172
theorem sX8_write_0 : sgm cX8_write 0 [42, 3, 181, 0, 1, 27, 133, 9, 20, 0, 196, 184, 0, 124, 154, 0, 7, 20, 1, 64, 173, 42, 180, 0, 55, 27, 46, 2, 160, 0, 7, 20, 1, 66, 173, 28] := by decide +kernel
theorem dX8_write_0 : decode cX8_write 0 = .ok (.aload_n 0, 1) := dc0 (j := 0) sX8_write_0 rfl op_42
theorem dX8_write_1 : decode cX8_write 1 = .ok (.iconst 0, 1) := dc0 (j := 1) sX8_write_0 rfl op_3
theorem dX8_write_2 : decode cX8_write 2 = .ok (.putfield 1, 3) := dcB (j := 2) (f := Instr.putfield) sX8_write_0 rfl op_181 rfl
theorem dX8_write_5 : decode cX8_write 5 = .ok (.iload_n 1, 1) := dc0 (j := 5) sX8_write_0 rfl op_27
theorem dX8_write_6 : decode cX8_write 6 = .ok (.i2l, 1) := dc0 (j := 6) sX8_write_0 rfl op_133
theorem dX8_write_7 : decode cX8_write 7 = .ok (.lconst 0, 1) := dc0 (j := 7) sX8_write_0 rfl op_9
theorem dX8_write_8 : decode cX8_write 8 = .ok (.ldc2_w 196, 3) := dcB (j := 8) (f := Instr.ldc2_w) sX8_write_0 rfl op_20 rfl
theorem dX8_write_11 : decode cX8_write 11 = .ok (.invokestatic 124, 3) := dcB (j := 11) (f := Instr.invokestatic) sX8_write_0 rfl op_184 rfl
theorem dX8_write_14 : decode cX8_write 14 = .ok (.ifCond .ne 7, 3) := dcTp (j := 14) (v := 7) (f := Instr.ifCond .ne) sX8_write_0 rfl op_154 rfl rfl
theorem dX8_write_17 : decode cX8_write 17 = .ok (.ldc2_w 320, 3) := dcB (j := 17) (f := Instr.ldc2_w) sX8_write_0 rfl op_20 rfl
theorem dX8_write_20 : decode cX8_write 20 = .ok (.lreturn, 1) := dc0 (j := 20) sX8_write_0 rfl op_173
theorem dX8_write_21 : decode cX8_write 21 = .ok (.aload_n 0, 1) := dc0 (j := 21) sX8_write_0 rfl op_42
theorem dX8_write_22 : decode cX8_write 22 = .ok (.getfield 55, 3) := dcB (j := 22) (f := Instr.getfield) sX8_write_0 rfl op_180 rfl
theorem dX8_write_25 : decode cX8_write 25 = .ok (.iload_n 1, 1) := dc0 (j := 25) sX8_write_0 rfl op_27
theorem dX8_write_26 : decode cX8_write 26 = .ok (.iaload, 1) := dc0 (j := 26) sX8_write_0 rfl op_46
theorem dX8_write_27 : decode cX8_write 27 = .ok (.iconst (-1), 1) := dc0 (j := 27) sX8_write_0 rfl op_2
theorem dX8_write_28 : decode cX8_write 28 = .ok (.if_icmp .ne 7, 3) := dcTp (j := 28) (v := 7) (f := Instr.if_icmp .ne) sX8_write_0 rfl op_160 rfl rfl
theorem dX8_write_31 : decode cX8_write 31 = .ok (.ldc2_w 322, 3) := dcB (j := 31) (f := Instr.ldc2_w) sX8_write_0 rfl op_20 rfl
theorem dX8_write_34 : decode cX8_write 34 = .ok (.lreturn, 1) := dc0 (j := 34) sX8_write_0 rfl op_173
theorem dX8_write_35 : decode cX8_write 35 = .ok (.iload_n 2, 1) := dc0 (j := 35) sX8_write_0 rfl op_28
theorem sX8_write_36 : sgm cX8_write 36 [133, 9, 42, 180, 0, 58, 27, 46, 4, 100, 133, 184, 0, 124, 154, 0, 7, 20, 1, 68, 173, 42, 180, 0, 61, 16, 40, 27, 104, 28, 96, 33, 42, 180, 0, 55] := by decide +kernel
theorem dX8_write_36 : decode cX8_write 36 = .ok (.i2l, 1) := dc0 (j := 0) sX8_write_36 rfl op_133
theorem dX8_write_37 : decode cX8_write 37 = .ok (.lconst 0, 1) := dc0 (j := 1) sX8_write_36 rfl op_9
theorem dX8_write_38 : decode cX8_write 38 = .ok (.aload_n 0, 1) := dc0 (j := 2) sX8_write_36 rfl op_42
theorem dX8_write_39 : decode cX8_write 39 = .ok (.getfield 58, 3) := dcB (j := 3) (f := Instr.getfield) sX8_write_36 rfl op_180 rfl
theorem dX8_write_42 : decode cX8_write 42 = .ok (.iload_n 1, 1) := dc0 (j := 6) sX8_write_36 rfl op_27
theorem dX8_write_43 : decode cX8_write 43 = .ok (.iaload, 1) := dc0 (j := 7) sX8_write_36 rfl op_46
theorem dX8_write_44 : decode cX8_write 44 = .ok (.iconst 1, 1) := dc0 (j := 8) sX8_write_36 rfl op_4
theorem dX8_write_45 : decode cX8_write 45 = .ok (.isub, 1) := dc0 (j := 9) sX8_write_36 rfl op_100
theorem dX8_write_46 : decode cX8_write 46 = .ok (.i2l, 1) := dc0 (j := 10) sX8_write_36 rfl op_133
theorem dX8_write_47 : decode cX8_write 47 = .ok (.invokestatic 124, 3) := dcB (j := 11) (f := Instr.invokestatic) sX8_write_36 rfl op_184 rfl
theorem dX8_write_50 : decode cX8_write 50 = .ok (.ifCond .ne 7, 3) := dcTp (j := 14) (v := 7) (f := Instr.ifCond .ne) sX8_write_36 rfl op_154 rfl rfl
theorem dX8_write_53 : decode cX8_write 53 = .ok (.ldc2_w 324, 3) := dcB (j := 17) (f := Instr.ldc2_w) sX8_write_36 rfl op_20 rfl
theorem dX8_write_56 : decode cX8_write 56 = .ok (.lreturn, 1) := dc0 (j := 20) sX8_write_36 rfl op_173
theorem dX8_write_57 : decode cX8_write 57 = .ok (.aload_n 0, 1) := dc0 (j := 21) sX8_write_36 rfl op_42
theorem dX8_write_58 : decode cX8_write 58 = .ok (.getfield 61, 3) := dcB (j := 22) (f := Instr.getfield) sX8_write_36 rfl op_180 rfl
theorem dX8_write_61 : decode cX8_write 61 = .ok (.bipush 40, 2) := dcSp (j := 25) (a := 40) (f := Instr.bipush) sX8_write_36 rfl op_16 rfl
theorem dX8_write_63 : decode cX8_write 63 = .ok (.iload_n 1, 1) := dc0 (j := 27) sX8_write_36 rfl op_27
theorem dX8_write_64 : decode cX8_write 64 = .ok (.imul, 1) := dc0 (j := 28) sX8_write_36 rfl op_104
theorem dX8_write_65 : decode cX8_write 65 = .ok (.iload_n 2, 1) := dc0 (j := 29) sX8_write_36 rfl op_28
theorem dX8_write_66 : decode cX8_write 66 = .ok (.iadd, 1) := dc0 (j := 30) sX8_write_36 rfl op_96
theorem dX8_write_67 : decode cX8_write 67 = .ok (.lload_n 3, 1) := dc0 (j := 31) sX8_write_36 rfl op_33
theorem dX8_write_68 : decode cX8_write 68 = .ok (.aload_n 0, 1) := dc0 (j := 32) sX8_write_36 rfl op_42
theorem dX8_write_69 : decode cX8_write 69 = .ok (.getfield 55, 3) := dcB (j := 33) (f := Instr.getfield) sX8_write_36 rfl op_180 rfl
theorem sX8_write_72 : sgm cX8_write 72 [27, 46, 184, 1, 70, 80, 42, 180, 0, 61, 16, 40, 27, 104, 28, 96, 47, 173] := by decide +kernel
theorem dX8_write_72 : decode cX8_write 72 = .ok (.iload_n 1, 1) := dc0 (j := 0) sX8_write_72 rfl op_27
theorem dX8_write_73 : decode cX8_write 73 = .ok (.iaload, 1) := dc0 (j := 1) sX8_write_72 rfl op_46
theorem dX8_write_74 : decode cX8_write 74 = .ok (.invokestatic 326, 3) := dcB (j := 2) (f := Instr.invokestatic) sX8_write_72 rfl op_184 rfl
theorem dX8_write_77 : decode cX8_write 77 = .ok (.lastore, 1) := dc0 (j := 5) sX8_write_72 rfl op_80
theorem dX8_write_78 : decode cX8_write 78 = .ok (.aload_n 0, 1) := dc0 (j := 6) sX8_write_72 rfl op_42
theorem dX8_write_79 : decode cX8_write 79 = .ok (.getfield 61, 3) := dcB (j := 7) (f := Instr.getfield) sX8_write_72 rfl op_180 rfl
theorem dX8_write_82 : decode cX8_write 82 = .ok (.bipush 40, 2) := dcSp (j := 10) (a := 40) (f := Instr.bipush) sX8_write_72 rfl op_16 rfl
theorem dX8_write_84 : decode cX8_write 84 = .ok (.iload_n 1, 1) := dc0 (j := 12) sX8_write_72 rfl op_27
theorem dX8_write_85 : decode cX8_write 85 = .ok (.imul, 1) := dc0 (j := 13) sX8_write_72 rfl op_104
theorem dX8_write_86 : decode cX8_write 86 = .ok (.iload_n 2, 1) := dc0 (j := 14) sX8_write_72 rfl op_28
theorem dX8_write_87 : decode cX8_write 87 = .ok (.iadd, 1) := dc0 (j := 15) sX8_write_72 rfl op_96
theorem dX8_write_88 : decode cX8_write 88 = .ok (.laload, 1) := dc0 (j := 16) sX8_write_72 rfl op_47
theorem dX8_write_89 : decode cX8_write 89 = .ok (.lreturn, 1) := dc0 (j := 17) sX8_write_72 rfl op_173
theorem sX8_copy_0 : sgm cX8_copy 0 [42, 3, 181, 0, 1, 27, 133, 9, 20, 0, 196, 184, 0, 124, 154, 0, 6, 16, 254, 172, 42, 180, 0, 55, 27, 46, 2, 160, 0, 6, 16, 250, 172, 42] := by decide +kernel
theorem dX8_copy_0 : decode cX8_copy 0 = .ok (.aload_n 0, 1) := dc0 (j := 0) sX8_copy_0 rfl op_42
theorem dX8_copy_1 : decode cX8_copy 1 = .ok (.iconst 0, 1) := dc0 (j := 1) sX8_copy_0 rfl op_3
theorem dX8_copy_2 : decode cX8_copy 2 = .ok (.putfield 1, 3) := dcB (j := 2) (f := Instr.putfield) sX8_copy_0 rfl op_181 rfl
theorem dX8_copy_5 : decode cX8_copy 5 = .ok (.iload_n 1, 1) := dc0 (j := 5) sX8_copy_0 rfl op_27
theorem dX8_copy_6 : decode cX8_copy 6 = .ok (.i2l, 1) := dc0 (j := 6) sX8_copy_0 rfl op_133
theorem dX8_copy_7 : decode cX8_copy 7 = .ok (.lconst 0, 1) := dc0 (j := 7) sX8_copy_0 rfl op_9
theorem dX8_copy_8 : decode cX8_copy 8 = .ok (.ldc2_w 196, 3) := dcB (j := 8) (f := Instr.ldc2_w) sX8_copy_0 rfl op_20 rfl
theorem dX8_copy_11 : decode cX8_copy 11 = .ok (.invokestatic 124, 3) := dcB (j := 11) (f := Instr.invokestatic) sX8_copy_0 rfl op_184 rfl
theorem dX8_copy_14 : decode cX8_copy 14 = .ok (.ifCond .ne 6, 3) := dcTp (j := 14) (v := 6) (f := Instr.ifCond .ne) sX8_copy_0 rfl op_154 rfl rfl
theorem dX8_copy_17 : decode cX8_copy 17 = .ok (.bipush (-2), 2) := dcSn (j := 17) (v := 2) (f := Instr.bipush) sX8_copy_0 rfl op_16 rfl rfl rfl
theorem dX8_copy_19 : decode cX8_copy 19 = .ok (.ireturn, 1) := dc0 (j := 19) sX8_copy_0 rfl op_172
theorem dX8_copy_20 : decode cX8_copy 20 = .ok (.aload_n 0, 1) := dc0 (j := 20) sX8_copy_0 rfl op_42
theorem dX8_copy_21 : decode cX8_copy 21 = .ok (.getfield 55, 3) := dcB (j := 21) (f := Instr.getfield) sX8_copy_0 rfl op_180 rfl
theorem dX8_copy_24 : decode cX8_copy 24 = .ok (.iload_n 1, 1) := dc0 (j := 24) sX8_copy_0 rfl op_27
theorem dX8_copy_25 : decode cX8_copy 25 = .ok (.iaload, 1) := dc0 (j := 25) sX8_copy_0 rfl op_46
theorem dX8_copy_26 : decode cX8_copy 26 = .ok (.iconst (-1), 1) := dc0 (j := 26) sX8_copy_0 rfl op_2
theorem dX8_copy_27 : decode cX8_copy 27 = .ok (.if_icmp .ne 6, 3) := dcTp (j := 27) (v := 6) (f := Instr.if_icmp .ne) sX8_copy_0 rfl op_160 rfl rfl
theorem dX8_copy_30 : decode cX8_copy 30 = .ok (.bipush (-6), 2) := dcSn (j := 30) (v := 6) (f := Instr.bipush) sX8_copy_0 rfl op_16 rfl rfl rfl
theorem dX8_copy_32 : decode cX8_copy 32 = .ok (.ireturn, 1) := dc0 (j := 32) sX8_copy_0 rfl op_172
theorem dX8_copy_33 : decode cX8_copy 33 = .ok (.aload_n 0, 1) := dc0 (j := 33) sX8_copy_0 rfl op_42
theorem sX8_copy_34 : sgm cX8_copy 34 [180, 0, 58, 27, 46, 42, 180, 0, 13, 3, 46, 162, 0, 6, 16, 249, 172, 3, 61, 28, 42, 180, 0, 13, 3, 46, 162, 0, 39, 42, 180, 0, 61, 16, 40, 27] := by decide +kernel
theorem dX8_copy_34 : decode cX8_copy 34 = .ok (.getfield 58, 3) := dcB (j := 0) (f := Instr.getfield) sX8_copy_34 rfl op_180 rfl
theorem dX8_copy_37 : decode cX8_copy 37 = .ok (.iload_n 1, 1) := dc0 (j := 3) sX8_copy_34 rfl op_27
theorem dX8_copy_38 : decode cX8_copy 38 = .ok (.iaload, 1) := dc0 (j := 4) sX8_copy_34 rfl op_46
theorem dX8_copy_39 : decode cX8_copy 39 = .ok (.aload_n 0, 1) := dc0 (j := 5) sX8_copy_34 rfl op_42
theorem dX8_copy_40 : decode cX8_copy 40 = .ok (.getfield 13, 3) := dcB (j := 6) (f := Instr.getfield) sX8_copy_34 rfl op_180 rfl
theorem dX8_copy_43 : decode cX8_copy 43 = .ok (.iconst 0, 1) := dc0 (j := 9) sX8_copy_34 rfl op_3
theorem dX8_copy_44 : decode cX8_copy 44 = .ok (.iaload, 1) := dc0 (j := 10) sX8_copy_34 rfl op_46
theorem dX8_copy_45 : decode cX8_copy 45 = .ok (.if_icmp .ge 6, 3) := dcTp (j := 11) (v := 6) (f := Instr.if_icmp .ge) sX8_copy_34 rfl op_162 rfl rfl
theorem dX8_copy_48 : decode cX8_copy 48 = .ok (.bipush (-7), 2) := dcSn (j := 14) (v := 7) (f := Instr.bipush) sX8_copy_34 rfl op_16 rfl rfl rfl
theorem dX8_copy_50 : decode cX8_copy 50 = .ok (.ireturn, 1) := dc0 (j := 16) sX8_copy_34 rfl op_172
theorem dX8_copy_51 : decode cX8_copy 51 = .ok (.iconst 0, 1) := dc0 (j := 17) sX8_copy_34 rfl op_3
theorem dX8_copy_52 : decode cX8_copy 52 = .ok (.istore_n 2, 1) := dc0 (j := 18) sX8_copy_34 rfl op_61
theorem dX8_copy_53 : decode cX8_copy 53 = .ok (.iload_n 2, 1) := dc0 (j := 19) sX8_copy_34 rfl op_28
theorem dX8_copy_54 : decode cX8_copy 54 = .ok (.aload_n 0, 1) := dc0 (j := 20) sX8_copy_34 rfl op_42
theorem dX8_copy_55 : decode cX8_copy 55 = .ok (.getfield 13, 3) := dcB (j := 21) (f := Instr.getfield) sX8_copy_34 rfl op_180 rfl
theorem dX8_copy_58 : decode cX8_copy 58 = .ok (.iconst 0, 1) := dc0 (j := 24) sX8_copy_34 rfl op_3
theorem dX8_copy_59 : decode cX8_copy 59 = .ok (.iaload, 1) := dc0 (j := 25) sX8_copy_34 rfl op_46
theorem dX8_copy_60 : decode cX8_copy 60 = .ok (.if_icmp .ge 39, 3) := dcTp (j := 26) (v := 39) (f := Instr.if_icmp .ge) sX8_copy_34 rfl op_162 rfl rfl
theorem dX8_copy_63 : decode cX8_copy 63 = .ok (.aload_n 0, 1) := dc0 (j := 29) sX8_copy_34 rfl op_42
theorem dX8_copy_64 : decode cX8_copy 64 = .ok (.getfield 61, 3) := dcB (j := 30) (f := Instr.getfield) sX8_copy_34 rfl op_180 rfl
theorem dX8_copy_67 : decode cX8_copy 67 = .ok (.bipush 40, 2) := dcSp (j := 33) (a := 40) (f := Instr.bipush) sX8_copy_34 rfl op_16 rfl
theorem dX8_copy_69 : decode cX8_copy 69 = .ok (.iload_n 1, 1) := dc0 (j := 35) sX8_copy_34 rfl op_27
theorem sX8_copy_70 : sgm cX8_copy 70 [104, 28, 96, 42, 180, 0, 13, 16, 24, 28, 96, 46, 133, 42, 180, 0, 55, 27, 46, 184, 1, 70, 80, 132, 2, 1, 167, 255, 213, 42, 180, 0, 13, 3, 46, 172] := by decide +kernel
theorem dX8_copy_70 : decode cX8_copy 70 = .ok (.imul, 1) := dc0 (j := 0) sX8_copy_70 rfl op_104
theorem dX8_copy_71 : decode cX8_copy 71 = .ok (.iload_n 2, 1) := dc0 (j := 1) sX8_copy_70 rfl op_28
theorem dX8_copy_72 : decode cX8_copy 72 = .ok (.iadd, 1) := dc0 (j := 2) sX8_copy_70 rfl op_96
theorem dX8_copy_73 : decode cX8_copy 73 = .ok (.aload_n 0, 1) := dc0 (j := 3) sX8_copy_70 rfl op_42
theorem dX8_copy_74 : decode cX8_copy 74 = .ok (.getfield 13, 3) := dcB (j := 4) (f := Instr.getfield) sX8_copy_70 rfl op_180 rfl
theorem dX8_copy_77 : decode cX8_copy 77 = .ok (.bipush 24, 2) := dcSp (j := 7) (a := 24) (f := Instr.bipush) sX8_copy_70 rfl op_16 rfl
theorem dX8_copy_79 : decode cX8_copy 79 = .ok (.iload_n 2, 1) := dc0 (j := 9) sX8_copy_70 rfl op_28
theorem dX8_copy_80 : decode cX8_copy 80 = .ok (.iadd, 1) := dc0 (j := 10) sX8_copy_70 rfl op_96
theorem dX8_copy_81 : decode cX8_copy 81 = .ok (.iaload, 1) := dc0 (j := 11) sX8_copy_70 rfl op_46
theorem dX8_copy_82 : decode cX8_copy 82 = .ok (.i2l, 1) := dc0 (j := 12) sX8_copy_70 rfl op_133
theorem dX8_copy_83 : decode cX8_copy 83 = .ok (.aload_n 0, 1) := dc0 (j := 13) sX8_copy_70 rfl op_42
theorem dX8_copy_84 : decode cX8_copy 84 = .ok (.getfield 55, 3) := dcB (j := 14) (f := Instr.getfield) sX8_copy_70 rfl op_180 rfl
theorem dX8_copy_87 : decode cX8_copy 87 = .ok (.iload_n 1, 1) := dc0 (j := 17) sX8_copy_70 rfl op_27
theorem dX8_copy_88 : decode cX8_copy 88 = .ok (.iaload, 1) := dc0 (j := 18) sX8_copy_70 rfl op_46
theorem dX8_copy_89 : decode cX8_copy 89 = .ok (.invokestatic 326, 3) := dcB (j := 19) (f := Instr.invokestatic) sX8_copy_70 rfl op_184 rfl
theorem dX8_copy_92 : decode cX8_copy 92 = .ok (.lastore, 1) := dc0 (j := 22) sX8_copy_70 rfl op_80
theorem dX8_copy_93 : decode cX8_copy 93 = .ok (.iinc 2 1, 3) := dcIp (j := 23) sX8_copy_70 rfl op_132 rfl
theorem dX8_copy_96 : decode cX8_copy 96 = .ok (.goto (-43), 3) := dcTn (j := 26) (v := 43) (f := Instr.goto) sX8_copy_70 rfl op_167 rfl rfl rfl
theorem dX8_copy_99 : decode cX8_copy 99 = .ok (.aload_n 0, 1) := dc0 (j := 29) sX8_copy_70 rfl op_42
theorem dX8_copy_100 : decode cX8_copy 100 = .ok (.getfield 13, 3) := dcB (j := 30) (f := Instr.getfield) sX8_copy_70 rfl op_180 rfl
theorem dX8_copy_103 : decode cX8_copy 103 = .ok (.iconst 0, 1) := dc0 (j := 33) sX8_copy_70 rfl op_3
theorem dX8_copy_104 : decode cX8_copy 104 = .ok (.iaload, 1) := dc0 (j := 34) sX8_copy_70 rfl op_46
theorem dX8_copy_105 : decode cX8_copy 105 = .ok (.ireturn, 1) := dc0 (j := 35) sX8_copy_70 rfl op_172
theorem sX8_image_0 : sgm cX8_image 0 [42, 3, 181, 0, 1, 27, 133, 9, 10, 184, 0, 124, 154, 0, 6, 16, 254, 172, 3, 61, 28, 16, 94, 162, 0, 28, 42, 180, 0, 13, 16, 94, 27, 4, 96, 104] := by decide +kernel
theorem dX8_image_0 : decode cX8_image 0 = .ok (.aload_n 0, 1) := dc0 (j := 0) sX8_image_0 rfl op_42
theorem dX8_image_1 : decode cX8_image 1 = .ok (.iconst 0, 1) := dc0 (j := 1) sX8_image_0 rfl op_3
theorem dX8_image_2 : decode cX8_image 2 = .ok (.putfield 1, 3) := dcB (j := 2) (f := Instr.putfield) sX8_image_0 rfl op_181 rfl
theorem dX8_image_5 : decode cX8_image 5 = .ok (.iload_n 1, 1) := dc0 (j := 5) sX8_image_0 rfl op_27
theorem dX8_image_6 : decode cX8_image 6 = .ok (.i2l, 1) := dc0 (j := 6) sX8_image_0 rfl op_133
theorem dX8_image_7 : decode cX8_image 7 = .ok (.lconst 0, 1) := dc0 (j := 7) sX8_image_0 rfl op_9
theorem dX8_image_8 : decode cX8_image 8 = .ok (.lconst 1, 1) := dc0 (j := 8) sX8_image_0 rfl op_10
theorem dX8_image_9 : decode cX8_image 9 = .ok (.invokestatic 124, 3) := dcB (j := 9) (f := Instr.invokestatic) sX8_image_0 rfl op_184 rfl
theorem dX8_image_12 : decode cX8_image 12 = .ok (.ifCond .ne 6, 3) := dcTp (j := 12) (v := 6) (f := Instr.ifCond .ne) sX8_image_0 rfl op_154 rfl rfl
theorem dX8_image_15 : decode cX8_image 15 = .ok (.bipush (-2), 2) := dcSn (j := 15) (v := 2) (f := Instr.bipush) sX8_image_0 rfl op_16 rfl rfl rfl
theorem dX8_image_17 : decode cX8_image 17 = .ok (.ireturn, 1) := dc0 (j := 17) sX8_image_0 rfl op_172
theorem dX8_image_18 : decode cX8_image 18 = .ok (.iconst 0, 1) := dc0 (j := 18) sX8_image_0 rfl op_3
theorem dX8_image_19 : decode cX8_image 19 = .ok (.istore_n 2, 1) := dc0 (j := 19) sX8_image_0 rfl op_61
theorem dX8_image_20 : decode cX8_image 20 = .ok (.iload_n 2, 1) := dc0 (j := 20) sX8_image_0 rfl op_28
theorem dX8_image_21 : decode cX8_image 21 = .ok (.bipush 94, 2) := dcSp (j := 21) (a := 94) (f := Instr.bipush) sX8_image_0 rfl op_16 rfl
theorem dX8_image_23 : decode cX8_image 23 = .ok (.if_icmp .ge 28, 3) := dcTp (j := 23) (v := 28) (f := Instr.if_icmp .ge) sX8_image_0 rfl op_162 rfl rfl
theorem dX8_image_26 : decode cX8_image 26 = .ok (.aload_n 0, 1) := dc0 (j := 26) sX8_image_0 rfl op_42
theorem dX8_image_27 : decode cX8_image 27 = .ok (.getfield 13, 3) := dcB (j := 27) (f := Instr.getfield) sX8_image_0 rfl op_180 rfl
theorem dX8_image_30 : decode cX8_image 30 = .ok (.bipush 94, 2) := dcSp (j := 30) (a := 94) (f := Instr.bipush) sX8_image_0 rfl op_16 rfl
theorem dX8_image_32 : decode cX8_image 32 = .ok (.iload_n 1, 1) := dc0 (j := 32) sX8_image_0 rfl op_27
theorem dX8_image_33 : decode cX8_image 33 = .ok (.iconst 1, 1) := dc0 (j := 33) sX8_image_0 rfl op_4
theorem dX8_image_34 : decode cX8_image 34 = .ok (.iadd, 1) := dc0 (j := 34) sX8_image_0 rfl op_96
theorem dX8_image_35 : decode cX8_image 35 = .ok (.imul, 1) := dc0 (j := 35) sX8_image_0 rfl op_104
theorem sX8_image_36 : sgm cX8_image 36 [28, 96, 42, 180, 0, 13, 28, 46, 79, 132, 2, 1, 167, 255, 228, 42, 180, 0, 17, 27, 4, 84, 3, 172] := by decide +kernel
theorem dX8_image_36 : decode cX8_image 36 = .ok (.iload_n 2, 1) := dc0 (j := 0) sX8_image_36 rfl op_28
theorem dX8_image_37 : decode cX8_image 37 = .ok (.iadd, 1) := dc0 (j := 1) sX8_image_36 rfl op_96
theorem dX8_image_38 : decode cX8_image 38 = .ok (.aload_n 0, 1) := dc0 (j := 2) sX8_image_36 rfl op_42
theorem dX8_image_39 : decode cX8_image 39 = .ok (.getfield 13, 3) := dcB (j := 3) (f := Instr.getfield) sX8_image_36 rfl op_180 rfl
theorem dX8_image_42 : decode cX8_image 42 = .ok (.iload_n 2, 1) := dc0 (j := 6) sX8_image_36 rfl op_28
theorem dX8_image_43 : decode cX8_image 43 = .ok (.iaload, 1) := dc0 (j := 7) sX8_image_36 rfl op_46
theorem dX8_image_44 : decode cX8_image 44 = .ok (.iastore, 1) := dc0 (j := 8) sX8_image_36 rfl op_79
theorem dX8_image_45 : decode cX8_image 45 = .ok (.iinc 2 1, 3) := dcIp (j := 9) sX8_image_36 rfl op_132 rfl
theorem dX8_image_48 : decode cX8_image 48 = .ok (.goto (-28), 3) := dcTn (j := 12) (v := 28) (f := Instr.goto) sX8_image_36 rfl op_167 rfl rfl rfl
theorem dX8_image_51 : decode cX8_image 51 = .ok (.aload_n 0, 1) := dc0 (j := 15) sX8_image_36 rfl op_42
theorem dX8_image_52 : decode cX8_image 52 = .ok (.getfield 17, 3) := dcB (j := 16) (f := Instr.getfield) sX8_image_36 rfl op_180 rfl
theorem dX8_image_55 : decode cX8_image 55 = .ok (.iload_n 1, 1) := dc0 (j := 19) sX8_image_36 rfl op_27
theorem dX8_image_56 : decode cX8_image 56 = .ok (.iconst 1, 1) := dc0 (j := 20) sX8_image_36 rfl op_4
theorem dX8_image_57 : decode cX8_image 57 = .ok (.bastore, 1) := dc0 (j := 21) sX8_image_36 rfl op_84
theorem dX8_image_58 : decode cX8_image 58 = .ok (.iconst 0, 1) := dc0 (j := 22) sX8_image_36 rfl op_3
theorem dX8_image_59 : decode cX8_image 59 = .ok (.ireturn, 1) := dc0 (j := 23) sX8_image_36 rfl op_172
theorem sX8_restore_0 : sgm cX8_restore 0 [42, 3, 181, 0, 1, 27, 133, 9, 10, 184, 0, 124, 154, 0, 6, 16, 254, 172, 42, 180, 0, 17, 27, 51, 154, 0, 6, 16, 251, 172, 3, 61, 28, 16, 94] := by decide +kernel
theorem dX8_restore_0 : decode cX8_restore 0 = .ok (.aload_n 0, 1) := dc0 (j := 0) sX8_restore_0 rfl op_42
theorem dX8_restore_1 : decode cX8_restore 1 = .ok (.iconst 0, 1) := dc0 (j := 1) sX8_restore_0 rfl op_3
theorem dX8_restore_2 : decode cX8_restore 2 = .ok (.putfield 1, 3) := dcB (j := 2) (f := Instr.putfield) sX8_restore_0 rfl op_181 rfl
theorem dX8_restore_5 : decode cX8_restore 5 = .ok (.iload_n 1, 1) := dc0 (j := 5) sX8_restore_0 rfl op_27
theorem dX8_restore_6 : decode cX8_restore 6 = .ok (.i2l, 1) := dc0 (j := 6) sX8_restore_0 rfl op_133
theorem dX8_restore_7 : decode cX8_restore 7 = .ok (.lconst 0, 1) := dc0 (j := 7) sX8_restore_0 rfl op_9
theorem dX8_restore_8 : decode cX8_restore 8 = .ok (.lconst 1, 1) := dc0 (j := 8) sX8_restore_0 rfl op_10
theorem dX8_restore_9 : decode cX8_restore 9 = .ok (.invokestatic 124, 3) := dcB (j := 9) (f := Instr.invokestatic) sX8_restore_0 rfl op_184 rfl
theorem dX8_restore_12 : decode cX8_restore 12 = .ok (.ifCond .ne 6, 3) := dcTp (j := 12) (v := 6) (f := Instr.ifCond .ne) sX8_restore_0 rfl op_154 rfl rfl
theorem dX8_restore_15 : decode cX8_restore 15 = .ok (.bipush (-2), 2) := dcSn (j := 15) (v := 2) (f := Instr.bipush) sX8_restore_0 rfl op_16 rfl rfl rfl
theorem dX8_restore_17 : decode cX8_restore 17 = .ok (.ireturn, 1) := dc0 (j := 17) sX8_restore_0 rfl op_172
theorem dX8_restore_18 : decode cX8_restore 18 = .ok (.aload_n 0, 1) := dc0 (j := 18) sX8_restore_0 rfl op_42
theorem dX8_restore_19 : decode cX8_restore 19 = .ok (.getfield 17, 3) := dcB (j := 19) (f := Instr.getfield) sX8_restore_0 rfl op_180 rfl
theorem dX8_restore_22 : decode cX8_restore 22 = .ok (.iload_n 1, 1) := dc0 (j := 22) sX8_restore_0 rfl op_27
theorem dX8_restore_23 : decode cX8_restore 23 = .ok (.baload, 1) := dc0 (j := 23) sX8_restore_0 rfl op_51
theorem dX8_restore_24 : decode cX8_restore 24 = .ok (.ifCond .ne 6, 3) := dcTp (j := 24) (v := 6) (f := Instr.ifCond .ne) sX8_restore_0 rfl op_154 rfl rfl
theorem dX8_restore_27 : decode cX8_restore 27 = .ok (.bipush (-5), 2) := dcSn (j := 27) (v := 5) (f := Instr.bipush) sX8_restore_0 rfl op_16 rfl rfl rfl
theorem dX8_restore_29 : decode cX8_restore 29 = .ok (.ireturn, 1) := dc0 (j := 29) sX8_restore_0 rfl op_172
theorem dX8_restore_30 : decode cX8_restore 30 = .ok (.iconst 0, 1) := dc0 (j := 30) sX8_restore_0 rfl op_3
theorem dX8_restore_31 : decode cX8_restore 31 = .ok (.istore_n 2, 1) := dc0 (j := 31) sX8_restore_0 rfl op_61
theorem dX8_restore_32 : decode cX8_restore 32 = .ok (.iload_n 2, 1) := dc0 (j := 32) sX8_restore_0 rfl op_28
theorem dX8_restore_33 : decode cX8_restore 33 = .ok (.bipush 94, 2) := dcSp (j := 33) (a := 94) (f := Instr.bipush) sX8_restore_0 rfl op_16 rfl
theorem sX8_restore_35 : sgm cX8_restore 35 [162, 0, 28, 42, 180, 0, 13, 28, 42, 180, 0, 13, 16, 94, 27, 4, 96, 104, 28, 96, 46, 79, 132, 2, 1, 167, 255, 228, 3, 172] := by decide +kernel
theorem dX8_restore_35 : decode cX8_restore 35 = .ok (.if_icmp .ge 28, 3) := dcTp (j := 0) (v := 28) (f := Instr.if_icmp .ge) sX8_restore_35 rfl op_162 rfl rfl
theorem dX8_restore_38 : decode cX8_restore 38 = .ok (.aload_n 0, 1) := dc0 (j := 3) sX8_restore_35 rfl op_42
theorem dX8_restore_39 : decode cX8_restore 39 = .ok (.getfield 13, 3) := dcB (j := 4) (f := Instr.getfield) sX8_restore_35 rfl op_180 rfl
theorem dX8_restore_42 : decode cX8_restore 42 = .ok (.iload_n 2, 1) := dc0 (j := 7) sX8_restore_35 rfl op_28
theorem dX8_restore_43 : decode cX8_restore 43 = .ok (.aload_n 0, 1) := dc0 (j := 8) sX8_restore_35 rfl op_42
theorem dX8_restore_44 : decode cX8_restore 44 = .ok (.getfield 13, 3) := dcB (j := 9) (f := Instr.getfield) sX8_restore_35 rfl op_180 rfl
theorem dX8_restore_47 : decode cX8_restore 47 = .ok (.bipush 94, 2) := dcSp (j := 12) (a := 94) (f := Instr.bipush) sX8_restore_35 rfl op_16 rfl
theorem dX8_restore_49 : decode cX8_restore 49 = .ok (.iload_n 1, 1) := dc0 (j := 14) sX8_restore_35 rfl op_27
theorem dX8_restore_50 : decode cX8_restore 50 = .ok (.iconst 1, 1) := dc0 (j := 15) sX8_restore_35 rfl op_4
theorem dX8_restore_51 : decode cX8_restore 51 = .ok (.iadd, 1) := dc0 (j := 16) sX8_restore_35 rfl op_96
theorem dX8_restore_52 : decode cX8_restore 52 = .ok (.imul, 1) := dc0 (j := 17) sX8_restore_35 rfl op_104
theorem dX8_restore_53 : decode cX8_restore 53 = .ok (.iload_n 2, 1) := dc0 (j := 18) sX8_restore_35 rfl op_28
theorem dX8_restore_54 : decode cX8_restore 54 = .ok (.iadd, 1) := dc0 (j := 19) sX8_restore_35 rfl op_96
theorem dX8_restore_55 : decode cX8_restore 55 = .ok (.iaload, 1) := dc0 (j := 20) sX8_restore_35 rfl op_46
theorem dX8_restore_56 : decode cX8_restore 56 = .ok (.iastore, 1) := dc0 (j := 21) sX8_restore_35 rfl op_79
theorem dX8_restore_57 : decode cX8_restore 57 = .ok (.iinc 2 1, 3) := dcIp (j := 22) sX8_restore_35 rfl op_132 rfl
theorem dX8_restore_60 : decode cX8_restore 60 = .ok (.goto (-28), 3) := dcTn (j := 25) (v := 28) (f := Instr.goto) sX8_restore_35 rfl op_167 rfl rfl rfl
theorem dX8_restore_63 : decode cX8_restore 63 = .ok (.iconst 0, 1) := dc0 (j := 28) sX8_restore_35 rfl op_3
theorem dX8_restore_64 : decode cX8_restore 64 = .ok (.ireturn, 1) := dc0 (j := 29) sX8_restore_35 rfl op_172
theorem sX8_sumOf_0 : sgm cX8_sumOf 0 [3, 61, 3, 62, 29, 42, 180, 0, 13, 3, 46, 162, 0, 20, 28, 42, 180, 0, 13, 27, 29, 96, 46, 96, 61, 132, 3, 1, 167, 255, 232, 28, 172] := by decide +kernel
theorem dX8_sumOf_0 : decode cX8_sumOf 0 = .ok (.iconst 0, 1) := dc0 (j := 0) sX8_sumOf_0 rfl op_3
theorem dX8_sumOf_1 : decode cX8_sumOf 1 = .ok (.istore_n 2, 1) := dc0 (j := 1) sX8_sumOf_0 rfl op_61
theorem dX8_sumOf_2 : decode cX8_sumOf 2 = .ok (.iconst 0, 1) := dc0 (j := 2) sX8_sumOf_0 rfl op_3
theorem dX8_sumOf_3 : decode cX8_sumOf 3 = .ok (.istore_n 3, 1) := dc0 (j := 3) sX8_sumOf_0 rfl op_62
theorem dX8_sumOf_4 : decode cX8_sumOf 4 = .ok (.iload_n 3, 1) := dc0 (j := 4) sX8_sumOf_0 rfl op_29
theorem dX8_sumOf_5 : decode cX8_sumOf 5 = .ok (.aload_n 0, 1) := dc0 (j := 5) sX8_sumOf_0 rfl op_42
theorem dX8_sumOf_6 : decode cX8_sumOf 6 = .ok (.getfield 13, 3) := dcB (j := 6) (f := Instr.getfield) sX8_sumOf_0 rfl op_180 rfl
theorem dX8_sumOf_9 : decode cX8_sumOf 9 = .ok (.iconst 0, 1) := dc0 (j := 9) sX8_sumOf_0 rfl op_3
theorem dX8_sumOf_10 : decode cX8_sumOf 10 = .ok (.iaload, 1) := dc0 (j := 10) sX8_sumOf_0 rfl op_46
theorem dX8_sumOf_11 : decode cX8_sumOf 11 = .ok (.if_icmp .ge 20, 3) := dcTp (j := 11) (v := 20) (f := Instr.if_icmp .ge) sX8_sumOf_0 rfl op_162 rfl rfl
theorem dX8_sumOf_14 : decode cX8_sumOf 14 = .ok (.iload_n 2, 1) := dc0 (j := 14) sX8_sumOf_0 rfl op_28
theorem dX8_sumOf_15 : decode cX8_sumOf 15 = .ok (.aload_n 0, 1) := dc0 (j := 15) sX8_sumOf_0 rfl op_42
theorem dX8_sumOf_16 : decode cX8_sumOf 16 = .ok (.getfield 13, 3) := dcB (j := 16) (f := Instr.getfield) sX8_sumOf_0 rfl op_180 rfl
theorem dX8_sumOf_19 : decode cX8_sumOf 19 = .ok (.iload_n 1, 1) := dc0 (j := 19) sX8_sumOf_0 rfl op_27
theorem dX8_sumOf_20 : decode cX8_sumOf 20 = .ok (.iload_n 3, 1) := dc0 (j := 20) sX8_sumOf_0 rfl op_29
theorem dX8_sumOf_21 : decode cX8_sumOf 21 = .ok (.iadd, 1) := dc0 (j := 21) sX8_sumOf_0 rfl op_96
theorem dX8_sumOf_22 : decode cX8_sumOf 22 = .ok (.iaload, 1) := dc0 (j := 22) sX8_sumOf_0 rfl op_46
theorem dX8_sumOf_23 : decode cX8_sumOf 23 = .ok (.iadd, 1) := dc0 (j := 23) sX8_sumOf_0 rfl op_96
theorem dX8_sumOf_24 : decode cX8_sumOf 24 = .ok (.istore_n 2, 1) := dc0 (j := 24) sX8_sumOf_0 rfl op_61
theorem dX8_sumOf_25 : decode cX8_sumOf 25 = .ok (.iinc 3 1, 3) := dcIp (j := 25) sX8_sumOf_0 rfl op_132 rfl
theorem dX8_sumOf_28 : decode cX8_sumOf 28 = .ok (.goto (-24), 3) := dcTn (j := 28) (v := 24) (f := Instr.goto) sX8_sumOf_0 rfl op_167 rfl rfl rfl
theorem dX8_sumOf_31 : decode cX8_sumOf 31 = .ok (.iload_n 2, 1) := dc0 (j := 31) sX8_sumOf_0 rfl op_28
theorem dX8_sumOf_32 : decode cX8_sumOf 32 = .ok (.ireturn, 1) := dc0 (j := 32) sX8_sumOf_0 rfl op_172
theorem sX8_warmOnes_0 : sgm cX8_warmOnes 0 [3, 60, 3, 61, 28, 42, 180, 0, 13, 3, 46, 162, 0, 27, 27, 42, 28, 182, 0, 174, 153, 0, 9, 4, 28, 120, 167, 0, 4, 3, 128, 60, 132, 2, 1] := by decide +kernel
theorem dX8_warmOnes_0 : decode cX8_warmOnes 0 = .ok (.iconst 0, 1) := dc0 (j := 0) sX8_warmOnes_0 rfl op_3
theorem dX8_warmOnes_1 : decode cX8_warmOnes 1 = .ok (.istore_n 1, 1) := dc0 (j := 1) sX8_warmOnes_0 rfl op_60
theorem dX8_warmOnes_2 : decode cX8_warmOnes 2 = .ok (.iconst 0, 1) := dc0 (j := 2) sX8_warmOnes_0 rfl op_3
theorem dX8_warmOnes_3 : decode cX8_warmOnes 3 = .ok (.istore_n 2, 1) := dc0 (j := 3) sX8_warmOnes_0 rfl op_61
theorem dX8_warmOnes_4 : decode cX8_warmOnes 4 = .ok (.iload_n 2, 1) := dc0 (j := 4) sX8_warmOnes_0 rfl op_28
theorem dX8_warmOnes_5 : decode cX8_warmOnes 5 = .ok (.aload_n 0, 1) := dc0 (j := 5) sX8_warmOnes_0 rfl op_42
theorem dX8_warmOnes_6 : decode cX8_warmOnes 6 = .ok (.getfield 13, 3) := dcB (j := 6) (f := Instr.getfield) sX8_warmOnes_0 rfl op_180 rfl
theorem dX8_warmOnes_9 : decode cX8_warmOnes 9 = .ok (.iconst 0, 1) := dc0 (j := 9) sX8_warmOnes_0 rfl op_3
theorem dX8_warmOnes_10 : decode cX8_warmOnes 10 = .ok (.iaload, 1) := dc0 (j := 10) sX8_warmOnes_0 rfl op_46
theorem dX8_warmOnes_11 : decode cX8_warmOnes 11 = .ok (.if_icmp .ge 27, 3) := dcTp (j := 11) (v := 27) (f := Instr.if_icmp .ge) sX8_warmOnes_0 rfl op_162 rfl rfl
theorem dX8_warmOnes_14 : decode cX8_warmOnes 14 = .ok (.iload_n 1, 1) := dc0 (j := 14) sX8_warmOnes_0 rfl op_27
theorem dX8_warmOnes_15 : decode cX8_warmOnes 15 = .ok (.aload_n 0, 1) := dc0 (j := 15) sX8_warmOnes_0 rfl op_42
theorem dX8_warmOnes_16 : decode cX8_warmOnes 16 = .ok (.iload_n 2, 1) := dc0 (j := 16) sX8_warmOnes_0 rfl op_28
theorem dX8_warmOnes_17 : decode cX8_warmOnes 17 = .ok (.invokevirtual 174, 3) := dcB (j := 17) (f := Instr.invokevirtual) sX8_warmOnes_0 rfl op_182 rfl
theorem dX8_warmOnes_20 : decode cX8_warmOnes 20 = .ok (.ifCond .eq 9, 3) := dcTp (j := 20) (v := 9) (f := Instr.ifCond .eq) sX8_warmOnes_0 rfl op_153 rfl rfl
theorem dX8_warmOnes_23 : decode cX8_warmOnes 23 = .ok (.iconst 1, 1) := dc0 (j := 23) sX8_warmOnes_0 rfl op_4
theorem dX8_warmOnes_24 : decode cX8_warmOnes 24 = .ok (.iload_n 2, 1) := dc0 (j := 24) sX8_warmOnes_0 rfl op_28
theorem dX8_warmOnes_25 : decode cX8_warmOnes 25 = .ok (.ishl, 1) := dc0 (j := 25) sX8_warmOnes_0 rfl op_120
theorem dX8_warmOnes_26 : decode cX8_warmOnes 26 = .ok (.goto 4, 3) := dcTp (j := 26) (v := 4) (f := Instr.goto) sX8_warmOnes_0 rfl op_167 rfl rfl
theorem dX8_warmOnes_29 : decode cX8_warmOnes 29 = .ok (.iconst 0, 1) := dc0 (j := 29) sX8_warmOnes_0 rfl op_3
theorem dX8_warmOnes_30 : decode cX8_warmOnes 30 = .ok (.ior, 1) := dc0 (j := 30) sX8_warmOnes_0 rfl op_128
theorem dX8_warmOnes_31 : decode cX8_warmOnes 31 = .ok (.istore_n 1, 1) := dc0 (j := 31) sX8_warmOnes_0 rfl op_60
theorem dX8_warmOnes_32 : decode cX8_warmOnes 32 = .ok (.iinc 2 1, 3) := dcIp (j := 32) sX8_warmOnes_0 rfl op_132 rfl
theorem sX8_warmOnes_35 : sgm cX8_warmOnes 35 [167, 255, 225, 27, 172] := by decide +kernel
theorem dX8_warmOnes_35 : decode cX8_warmOnes 35 = .ok (.goto (-31), 3) := dcTn (j := 0) (v := 31) (f := Instr.goto) sX8_warmOnes_35 rfl op_167 rfl rfl rfl
theorem dX8_warmOnes_38 : decode cX8_warmOnes 38 = .ok (.iload_n 1, 1) := dc0 (j := 3) sX8_warmOnes_35 rfl op_27
theorem dX8_warmOnes_39 : decode cX8_warmOnes 39 = .ok (.ireturn, 1) := dc0 (j := 4) sX8_warmOnes_35 rfl op_172
theorem sX8_count_0 : sgm cX8_count 0 [42, 3, 181, 0, 1, 27] := by decide +kernel
theorem dX8_count_0 : decode cX8_count 0 = .ok (.aload_n 0, 1) := dc0 (j := 0) sX8_count_0 rfl op_42
theorem dX8_count_1 : decode cX8_count 1 = .ok (.iconst 0, 1) := dc0 (j := 1) sX8_count_0 rfl op_3
theorem dX8_count_2 : decode cX8_count 2 = .ok (.putfield 1, 3) := dcB (j := 2) (f := Instr.putfield) sX8_count_0 rfl op_181 rfl
theorem dX8_count_5 : decode cX8_count 5 = .ok (.iload_n 1, 1) := dc0 (j := 5) sX8_count_0 rfl op_27
theorem dX8_count_6 : decode cX8_count 6 = .ok (.tableswitch 107 0 8 #[50, 57, 64, 69, 76, 81, 88, 93, 100], 50) := by decide +kernel
theorem sX8_count_56 : sgm cX8_count 56 [42, 180, 0, 13, 3, 46, 172, 42, 180, 0, 13, 4, 46, 172, 42, 182, 0, 206, 172, 42, 16, 74, 182, 1, 74, 172, 42, 182, 1, 77, 172, 42, 16, 24] := by decide +kernel
theorem dX8_count_56 : decode cX8_count 56 = .ok (.aload_n 0, 1) := dc0 (j := 0) sX8_count_56 rfl op_42
theorem dX8_count_57 : decode cX8_count 57 = .ok (.getfield 13, 3) := dcB (j := 1) (f := Instr.getfield) sX8_count_56 rfl op_180 rfl
theorem dX8_count_60 : decode cX8_count 60 = .ok (.iconst 0, 1) := dc0 (j := 4) sX8_count_56 rfl op_3
theorem dX8_count_61 : decode cX8_count 61 = .ok (.iaload, 1) := dc0 (j := 5) sX8_count_56 rfl op_46
theorem dX8_count_62 : decode cX8_count 62 = .ok (.ireturn, 1) := dc0 (j := 6) sX8_count_56 rfl op_172
theorem dX8_count_63 : decode cX8_count 63 = .ok (.aload_n 0, 1) := dc0 (j := 7) sX8_count_56 rfl op_42
theorem dX8_count_64 : decode cX8_count 64 = .ok (.getfield 13, 3) := dcB (j := 8) (f := Instr.getfield) sX8_count_56 rfl op_180 rfl
theorem dX8_count_67 : decode cX8_count 67 = .ok (.iconst 1, 1) := dc0 (j := 11) sX8_count_56 rfl op_4
theorem dX8_count_68 : decode cX8_count 68 = .ok (.iaload, 1) := dc0 (j := 12) sX8_count_56 rfl op_46
theorem dX8_count_69 : decode cX8_count 69 = .ok (.ireturn, 1) := dc0 (j := 13) sX8_count_56 rfl op_172
theorem dX8_count_70 : decode cX8_count 70 = .ok (.aload_n 0, 1) := dc0 (j := 14) sX8_count_56 rfl op_42
theorem dX8_count_71 : decode cX8_count 71 = .ok (.invokevirtual 206, 3) := dcB (j := 15) (f := Instr.invokevirtual) sX8_count_56 rfl op_182 rfl
theorem dX8_count_74 : decode cX8_count 74 = .ok (.ireturn, 1) := dc0 (j := 18) sX8_count_56 rfl op_172
theorem dX8_count_75 : decode cX8_count 75 = .ok (.aload_n 0, 1) := dc0 (j := 19) sX8_count_56 rfl op_42
theorem dX8_count_76 : decode cX8_count 76 = .ok (.bipush 74, 2) := dcSp (j := 20) (a := 74) (f := Instr.bipush) sX8_count_56 rfl op_16 rfl
theorem dX8_count_78 : decode cX8_count 78 = .ok (.invokevirtual 330, 3) := dcB (j := 22) (f := Instr.invokevirtual) sX8_count_56 rfl op_182 rfl
theorem dX8_count_81 : decode cX8_count 81 = .ok (.ireturn, 1) := dc0 (j := 25) sX8_count_56 rfl op_172
theorem dX8_count_82 : decode cX8_count 82 = .ok (.aload_n 0, 1) := dc0 (j := 26) sX8_count_56 rfl op_42
theorem dX8_count_83 : decode cX8_count 83 = .ok (.invokevirtual 333, 3) := dcB (j := 27) (f := Instr.invokevirtual) sX8_count_56 rfl op_182 rfl
theorem dX8_count_86 : decode cX8_count 86 = .ok (.ireturn, 1) := dc0 (j := 30) sX8_count_56 rfl op_172
theorem dX8_count_87 : decode cX8_count 87 = .ok (.aload_n 0, 1) := dc0 (j := 31) sX8_count_56 rfl op_42
theorem dX8_count_88 : decode cX8_count 88 = .ok (.bipush 24, 2) := dcSp (j := 32) (a := 24) (f := Instr.bipush) sX8_count_56 rfl op_16 rfl
theorem sX8_count_90 : sgm cX8_count 90 [182, 1, 74, 172, 42, 180, 0, 64, 172, 42, 180, 0, 13, 6, 46, 172, 42, 180, 0, 13, 5, 46, 172, 2, 172] := by decide +kernel
theorem dX8_count_90 : decode cX8_count 90 = .ok (.invokevirtual 330, 3) := dcB (j := 0) (f := Instr.invokevirtual) sX8_count_90 rfl op_182 rfl
theorem dX8_count_93 : decode cX8_count 93 = .ok (.ireturn, 1) := dc0 (j := 3) sX8_count_90 rfl op_172
theorem dX8_count_94 : decode cX8_count 94 = .ok (.aload_n 0, 1) := dc0 (j := 4) sX8_count_90 rfl op_42
theorem dX8_count_95 : decode cX8_count 95 = .ok (.getfield 64, 3) := dcB (j := 5) (f := Instr.getfield) sX8_count_90 rfl op_180 rfl
theorem dX8_count_98 : decode cX8_count 98 = .ok (.ireturn, 1) := dc0 (j := 8) sX8_count_90 rfl op_172
theorem dX8_count_99 : decode cX8_count 99 = .ok (.aload_n 0, 1) := dc0 (j := 9) sX8_count_90 rfl op_42
theorem dX8_count_100 : decode cX8_count 100 = .ok (.getfield 13, 3) := dcB (j := 10) (f := Instr.getfield) sX8_count_90 rfl op_180 rfl
theorem dX8_count_103 : decode cX8_count 103 = .ok (.iconst 3, 1) := dc0 (j := 13) sX8_count_90 rfl op_6
theorem dX8_count_104 : decode cX8_count 104 = .ok (.iaload, 1) := dc0 (j := 14) sX8_count_90 rfl op_46
theorem dX8_count_105 : decode cX8_count 105 = .ok (.ireturn, 1) := dc0 (j := 15) sX8_count_90 rfl op_172
theorem dX8_count_106 : decode cX8_count 106 = .ok (.aload_n 0, 1) := dc0 (j := 16) sX8_count_90 rfl op_42
theorem dX8_count_107 : decode cX8_count 107 = .ok (.getfield 13, 3) := dcB (j := 17) (f := Instr.getfield) sX8_count_90 rfl op_180 rfl
theorem dX8_count_110 : decode cX8_count 110 = .ok (.iconst 2, 1) := dc0 (j := 20) sX8_count_90 rfl op_5
theorem dX8_count_111 : decode cX8_count 111 = .ok (.iaload, 1) := dc0 (j := 21) sX8_count_90 rfl op_46
theorem dX8_count_112 : decode cX8_count 112 = .ok (.ireturn, 1) := dc0 (j := 22) sX8_count_90 rfl op_172
theorem dX8_count_113 : decode cX8_count 113 = .ok (.iconst (-1), 1) := dc0 (j := 23) sX8_count_90 rfl op_2
theorem dX8_count_114 : decode cX8_count 114 = .ok (.ireturn, 1) := dc0 (j := 24) sX8_count_90 rfl op_172
theorem sJ6_bitCount_0f7a4_0 : sgm cJ6_bitCount_0f7a4 0 [26, 26, 4, 124, 19, 1, 9, 126, 100, 59, 26, 19, 1, 10, 126, 26, 5, 124, 19, 1, 10, 126, 96, 59, 26, 26, 7, 124, 96, 19, 1, 11, 126, 59, 26, 26] := by decide +kernel
theorem dJ6_bitCount_0f7a4_0 : decode cJ6_bitCount_0f7a4 0 = .ok (.iload_n 0, 1) := dc0 (j := 0) sJ6_bitCount_0f7a4_0 rfl op_26
theorem dJ6_bitCount_0f7a4_1 : decode cJ6_bitCount_0f7a4 1 = .ok (.iload_n 0, 1) := dc0 (j := 1) sJ6_bitCount_0f7a4_0 rfl op_26
theorem dJ6_bitCount_0f7a4_2 : decode cJ6_bitCount_0f7a4 2 = .ok (.iconst 1, 1) := dc0 (j := 2) sJ6_bitCount_0f7a4_0 rfl op_4
theorem dJ6_bitCount_0f7a4_3 : decode cJ6_bitCount_0f7a4 3 = .ok (.iushr, 1) := dc0 (j := 3) sJ6_bitCount_0f7a4_0 rfl op_124
theorem dJ6_bitCount_0f7a4_4 : decode cJ6_bitCount_0f7a4 4 = .ok (.ldc_w 265, 3) := dcB (j := 4) (f := Instr.ldc_w) sJ6_bitCount_0f7a4_0 rfl op_19 rfl
theorem dJ6_bitCount_0f7a4_7 : decode cJ6_bitCount_0f7a4 7 = .ok (.iand, 1) := dc0 (j := 7) sJ6_bitCount_0f7a4_0 rfl op_126
theorem dJ6_bitCount_0f7a4_8 : decode cJ6_bitCount_0f7a4 8 = .ok (.isub, 1) := dc0 (j := 8) sJ6_bitCount_0f7a4_0 rfl op_100
theorem dJ6_bitCount_0f7a4_9 : decode cJ6_bitCount_0f7a4 9 = .ok (.istore_n 0, 1) := dc0 (j := 9) sJ6_bitCount_0f7a4_0 rfl op_59
theorem dJ6_bitCount_0f7a4_10 : decode cJ6_bitCount_0f7a4 10 = .ok (.iload_n 0, 1) := dc0 (j := 10) sJ6_bitCount_0f7a4_0 rfl op_26
theorem dJ6_bitCount_0f7a4_11 : decode cJ6_bitCount_0f7a4 11 = .ok (.ldc_w 266, 3) := dcB (j := 11) (f := Instr.ldc_w) sJ6_bitCount_0f7a4_0 rfl op_19 rfl
theorem dJ6_bitCount_0f7a4_14 : decode cJ6_bitCount_0f7a4 14 = .ok (.iand, 1) := dc0 (j := 14) sJ6_bitCount_0f7a4_0 rfl op_126
theorem dJ6_bitCount_0f7a4_15 : decode cJ6_bitCount_0f7a4 15 = .ok (.iload_n 0, 1) := dc0 (j := 15) sJ6_bitCount_0f7a4_0 rfl op_26
theorem dJ6_bitCount_0f7a4_16 : decode cJ6_bitCount_0f7a4 16 = .ok (.iconst 2, 1) := dc0 (j := 16) sJ6_bitCount_0f7a4_0 rfl op_5
theorem dJ6_bitCount_0f7a4_17 : decode cJ6_bitCount_0f7a4 17 = .ok (.iushr, 1) := dc0 (j := 17) sJ6_bitCount_0f7a4_0 rfl op_124
theorem dJ6_bitCount_0f7a4_18 : decode cJ6_bitCount_0f7a4 18 = .ok (.ldc_w 266, 3) := dcB (j := 18) (f := Instr.ldc_w) sJ6_bitCount_0f7a4_0 rfl op_19 rfl
theorem dJ6_bitCount_0f7a4_21 : decode cJ6_bitCount_0f7a4 21 = .ok (.iand, 1) := dc0 (j := 21) sJ6_bitCount_0f7a4_0 rfl op_126
theorem dJ6_bitCount_0f7a4_22 : decode cJ6_bitCount_0f7a4 22 = .ok (.iadd, 1) := dc0 (j := 22) sJ6_bitCount_0f7a4_0 rfl op_96
theorem dJ6_bitCount_0f7a4_23 : decode cJ6_bitCount_0f7a4 23 = .ok (.istore_n 0, 1) := dc0 (j := 23) sJ6_bitCount_0f7a4_0 rfl op_59
theorem dJ6_bitCount_0f7a4_24 : decode cJ6_bitCount_0f7a4 24 = .ok (.iload_n 0, 1) := dc0 (j := 24) sJ6_bitCount_0f7a4_0 rfl op_26
theorem dJ6_bitCount_0f7a4_25 : decode cJ6_bitCount_0f7a4 25 = .ok (.iload_n 0, 1) := dc0 (j := 25) sJ6_bitCount_0f7a4_0 rfl op_26
theorem dJ6_bitCount_0f7a4_26 : decode cJ6_bitCount_0f7a4 26 = .ok (.iconst 4, 1) := dc0 (j := 26) sJ6_bitCount_0f7a4_0 rfl op_7
theorem dJ6_bitCount_0f7a4_27 : decode cJ6_bitCount_0f7a4 27 = .ok (.iushr, 1) := dc0 (j := 27) sJ6_bitCount_0f7a4_0 rfl op_124
theorem dJ6_bitCount_0f7a4_28 : decode cJ6_bitCount_0f7a4 28 = .ok (.iadd, 1) := dc0 (j := 28) sJ6_bitCount_0f7a4_0 rfl op_96
theorem dJ6_bitCount_0f7a4_29 : decode cJ6_bitCount_0f7a4 29 = .ok (.ldc_w 267, 3) := dcB (j := 29) (f := Instr.ldc_w) sJ6_bitCount_0f7a4_0 rfl op_19 rfl
theorem dJ6_bitCount_0f7a4_32 : decode cJ6_bitCount_0f7a4 32 = .ok (.iand, 1) := dc0 (j := 32) sJ6_bitCount_0f7a4_0 rfl op_126
theorem dJ6_bitCount_0f7a4_33 : decode cJ6_bitCount_0f7a4 33 = .ok (.istore_n 0, 1) := dc0 (j := 33) sJ6_bitCount_0f7a4_0 rfl op_59
theorem dJ6_bitCount_0f7a4_34 : decode cJ6_bitCount_0f7a4 34 = .ok (.iload_n 0, 1) := dc0 (j := 34) sJ6_bitCount_0f7a4_0 rfl op_26
theorem dJ6_bitCount_0f7a4_35 : decode cJ6_bitCount_0f7a4 35 = .ok (.iload_n 0, 1) := dc0 (j := 35) sJ6_bitCount_0f7a4_0 rfl op_26
theorem sJ6_bitCount_0f7a4_36 : sgm cJ6_bitCount_0f7a4 36 [16, 8, 124, 96, 59, 26, 26, 16, 16, 124, 96, 59, 26, 16, 63, 126, 172] := by decide +kernel
theorem dJ6_bitCount_0f7a4_36 : decode cJ6_bitCount_0f7a4 36 = .ok (.bipush 8, 2) := dcSp (j := 0) (a := 8) (f := Instr.bipush) sJ6_bitCount_0f7a4_36 rfl op_16 rfl
theorem dJ6_bitCount_0f7a4_38 : decode cJ6_bitCount_0f7a4 38 = .ok (.iushr, 1) := dc0 (j := 2) sJ6_bitCount_0f7a4_36 rfl op_124
theorem dJ6_bitCount_0f7a4_39 : decode cJ6_bitCount_0f7a4 39 = .ok (.iadd, 1) := dc0 (j := 3) sJ6_bitCount_0f7a4_36 rfl op_96
theorem dJ6_bitCount_0f7a4_40 : decode cJ6_bitCount_0f7a4 40 = .ok (.istore_n 0, 1) := dc0 (j := 4) sJ6_bitCount_0f7a4_36 rfl op_59
theorem dJ6_bitCount_0f7a4_41 : decode cJ6_bitCount_0f7a4 41 = .ok (.iload_n 0, 1) := dc0 (j := 5) sJ6_bitCount_0f7a4_36 rfl op_26
theorem dJ6_bitCount_0f7a4_42 : decode cJ6_bitCount_0f7a4 42 = .ok (.iload_n 0, 1) := dc0 (j := 6) sJ6_bitCount_0f7a4_36 rfl op_26
theorem dJ6_bitCount_0f7a4_43 : decode cJ6_bitCount_0f7a4 43 = .ok (.bipush 16, 2) := dcSp (j := 7) (a := 16) (f := Instr.bipush) sJ6_bitCount_0f7a4_36 rfl op_16 rfl
theorem dJ6_bitCount_0f7a4_45 : decode cJ6_bitCount_0f7a4 45 = .ok (.iushr, 1) := dc0 (j := 9) sJ6_bitCount_0f7a4_36 rfl op_124
theorem dJ6_bitCount_0f7a4_46 : decode cJ6_bitCount_0f7a4 46 = .ok (.iadd, 1) := dc0 (j := 10) sJ6_bitCount_0f7a4_36 rfl op_96
theorem dJ6_bitCount_0f7a4_47 : decode cJ6_bitCount_0f7a4 47 = .ok (.istore_n 0, 1) := dc0 (j := 11) sJ6_bitCount_0f7a4_36 rfl op_59
theorem dJ6_bitCount_0f7a4_48 : decode cJ6_bitCount_0f7a4 48 = .ok (.iload_n 0, 1) := dc0 (j := 12) sJ6_bitCount_0f7a4_36 rfl op_26
theorem dJ6_bitCount_0f7a4_49 : decode cJ6_bitCount_0f7a4 49 = .ok (.bipush 63, 2) := dcSp (j := 13) (a := 63) (f := Instr.bipush) sJ6_bitCount_0f7a4_36 rfl op_16 rfl
theorem dJ6_bitCount_0f7a4_51 : decode cJ6_bitCount_0f7a4 51 = .ok (.iand, 1) := dc0 (j := 15) sJ6_bitCount_0f7a4_36 rfl op_126
theorem dJ6_bitCount_0f7a4_52 : decode cJ6_bitCount_0f7a4 52 = .ok (.ireturn, 1) := dc0 (j := 16) sJ6_bitCount_0f7a4_36 rfl op_172
theorem sJ9_floorMod_7cf53_0 : sgm cJ9_floorMod_7cf53 0 [26, 27, 112, 61, 26, 27, 130, 156, 0, 11, 28, 153, 0, 7, 28, 27, 96, 172, 28, 172] := by decide +kernel
theorem dJ9_floorMod_7cf53_0 : decode cJ9_floorMod_7cf53 0 = .ok (.iload_n 0, 1) := dc0 (j := 0) sJ9_floorMod_7cf53_0 rfl op_26
theorem dJ9_floorMod_7cf53_1 : decode cJ9_floorMod_7cf53 1 = .ok (.iload_n 1, 1) := dc0 (j := 1) sJ9_floorMod_7cf53_0 rfl op_27
theorem dJ9_floorMod_7cf53_2 : decode cJ9_floorMod_7cf53 2 = .ok (.irem, 1) := dc0 (j := 2) sJ9_floorMod_7cf53_0 rfl op_112
theorem dJ9_floorMod_7cf53_3 : decode cJ9_floorMod_7cf53 3 = .ok (.istore_n 2, 1) := dc0 (j := 3) sJ9_floorMod_7cf53_0 rfl op_61
theorem dJ9_floorMod_7cf53_4 : decode cJ9_floorMod_7cf53 4 = .ok (.iload_n 0, 1) := dc0 (j := 4) sJ9_floorMod_7cf53_0 rfl op_26
theorem dJ9_floorMod_7cf53_5 : decode cJ9_floorMod_7cf53 5 = .ok (.iload_n 1, 1) := dc0 (j := 5) sJ9_floorMod_7cf53_0 rfl op_27
theorem dJ9_floorMod_7cf53_6 : decode cJ9_floorMod_7cf53 6 = .ok (.ixor, 1) := dc0 (j := 6) sJ9_floorMod_7cf53_0 rfl op_130
theorem dJ9_floorMod_7cf53_7 : decode cJ9_floorMod_7cf53 7 = .ok (.ifCond .ge 11, 3) := dcTp (j := 7) (v := 11) (f := Instr.ifCond .ge) sJ9_floorMod_7cf53_0 rfl op_156 rfl rfl
theorem dJ9_floorMod_7cf53_10 : decode cJ9_floorMod_7cf53 10 = .ok (.iload_n 2, 1) := dc0 (j := 10) sJ9_floorMod_7cf53_0 rfl op_28
theorem dJ9_floorMod_7cf53_11 : decode cJ9_floorMod_7cf53 11 = .ok (.ifCond .eq 7, 3) := dcTp (j := 11) (v := 7) (f := Instr.ifCond .eq) sJ9_floorMod_7cf53_0 rfl op_153 rfl rfl
theorem dJ9_floorMod_7cf53_14 : decode cJ9_floorMod_7cf53 14 = .ok (.iload_n 2, 1) := dc0 (j := 14) sJ9_floorMod_7cf53_0 rfl op_28
theorem dJ9_floorMod_7cf53_15 : decode cJ9_floorMod_7cf53 15 = .ok (.iload_n 1, 1) := dc0 (j := 15) sJ9_floorMod_7cf53_0 rfl op_27
theorem dJ9_floorMod_7cf53_16 : decode cJ9_floorMod_7cf53 16 = .ok (.iadd, 1) := dc0 (j := 16) sJ9_floorMod_7cf53_0 rfl op_96
theorem dJ9_floorMod_7cf53_17 : decode cJ9_floorMod_7cf53 17 = .ok (.ireturn, 1) := dc0 (j := 17) sJ9_floorMod_7cf53_0 rfl op_172
theorem dJ9_floorMod_7cf53_18 : decode cJ9_floorMod_7cf53 18 = .ok (.iload_n 2, 1) := dc0 (j := 18) sJ9_floorMod_7cf53_0 rfl op_28
theorem dJ9_floorMod_7cf53_19 : decode cJ9_floorMod_7cf53 19 = .ok (.ireturn, 1) := dc0 (j := 19) sJ9_floorMod_7cf53_0 rfl op_172
theorem sJ9_abs_0f7a4_0 : sgm cJ9_abs_0f7a4 0 [26, 156, 0, 8, 26, 116, 167, 0, 4, 26, 172] := by decide +kernel
theorem dJ9_abs_0f7a4_0 : decode cJ9_abs_0f7a4 0 = .ok (.iload_n 0, 1) := dc0 (j := 0) sJ9_abs_0f7a4_0 rfl op_26
theorem dJ9_abs_0f7a4_1 : decode cJ9_abs_0f7a4 1 = .ok (.ifCond .ge 8, 3) := dcTp (j := 1) (v := 8) (f := Instr.ifCond .ge) sJ9_abs_0f7a4_0 rfl op_156 rfl rfl
theorem dJ9_abs_0f7a4_4 : decode cJ9_abs_0f7a4 4 = .ok (.iload_n 0, 1) := dc0 (j := 4) sJ9_abs_0f7a4_0 rfl op_26
theorem dJ9_abs_0f7a4_5 : decode cJ9_abs_0f7a4 5 = .ok (.ineg, 1) := dc0 (j := 5) sJ9_abs_0f7a4_0 rfl op_116
theorem dJ9_abs_0f7a4_6 : decode cJ9_abs_0f7a4 6 = .ok (.goto 4, 3) := dcTp (j := 6) (v := 4) (f := Instr.goto) sJ9_abs_0f7a4_0 rfl op_167 rfl rfl
theorem dJ9_abs_0f7a4_9 : decode cJ9_abs_0f7a4 9 = .ok (.iload_n 0, 1) := dc0 (j := 9) sJ9_abs_0f7a4_0 rfl op_26
theorem dJ9_abs_0f7a4_10 : decode cJ9_abs_0f7a4 10 = .ok (.ireturn, 1) := dc0 (j := 10) sJ9_abs_0f7a4_0 rfl op_172
theorem sJ9_max_7cf53_0 : sgm cJ9_max_7cf53 0 [26, 27, 161, 0, 7, 26, 167, 0, 4, 27, 172] := by decide +kernel
theorem dJ9_max_7cf53_0 : decode cJ9_max_7cf53 0 = .ok (.iload_n 0, 1) := dc0 (j := 0) sJ9_max_7cf53_0 rfl op_26
theorem dJ9_max_7cf53_1 : decode cJ9_max_7cf53 1 = .ok (.iload_n 1, 1) := dc0 (j := 1) sJ9_max_7cf53_0 rfl op_27
theorem dJ9_max_7cf53_2 : decode cJ9_max_7cf53 2 = .ok (.if_icmp .lt 7, 3) := dcTp (j := 2) (v := 7) (f := Instr.if_icmp .lt) sJ9_max_7cf53_0 rfl op_161 rfl rfl
theorem dJ9_max_7cf53_5 : decode cJ9_max_7cf53 5 = .ok (.iload_n 0, 1) := dc0 (j := 5) sJ9_max_7cf53_0 rfl op_26
theorem dJ9_max_7cf53_6 : decode cJ9_max_7cf53 6 = .ok (.goto 4, 3) := dcTp (j := 6) (v := 4) (f := Instr.goto) sJ9_max_7cf53_0 rfl op_167 rfl rfl
theorem dJ9_max_7cf53_9 : decode cJ9_max_7cf53 9 = .ok (.iload_n 1, 1) := dc0 (j := 9) sJ9_max_7cf53_0 rfl op_27
theorem dJ9_max_7cf53_10 : decode cJ9_max_7cf53 10 = .ok (.ireturn, 1) := dc0 (j := 10) sJ9_max_7cf53_0 rfl op_172
theorem sJ9_min_7cf53_0 : sgm cJ9_min_7cf53 0 [26, 27, 163, 0, 7, 26, 167, 0, 4, 27, 172] := by decide +kernel
theorem dJ9_min_7cf53_0 : decode cJ9_min_7cf53 0 = .ok (.iload_n 0, 1) := dc0 (j := 0) sJ9_min_7cf53_0 rfl op_26
theorem dJ9_min_7cf53_1 : decode cJ9_min_7cf53 1 = .ok (.iload_n 1, 1) := dc0 (j := 1) sJ9_min_7cf53_0 rfl op_27
theorem dJ9_min_7cf53_2 : decode cJ9_min_7cf53 2 = .ok (.if_icmp .gt 7, 3) := dcTp (j := 2) (v := 7) (f := Instr.if_icmp .gt) sJ9_min_7cf53_0 rfl op_163 rfl rfl
theorem dJ9_min_7cf53_5 : decode cJ9_min_7cf53 5 = .ok (.iload_n 0, 1) := dc0 (j := 5) sJ9_min_7cf53_0 rfl op_26
theorem dJ9_min_7cf53_6 : decode cJ9_min_7cf53 6 = .ok (.goto 4, 3) := dcTp (j := 6) (v := 4) (f := Instr.goto) sJ9_min_7cf53_0 rfl op_167 rfl rfl
theorem dJ9_min_7cf53_9 : decode cJ9_min_7cf53 9 = .ok (.iload_n 1, 1) := dc0 (j := 9) sJ9_min_7cf53_0 rfl op_27
theorem dJ9_min_7cf53_10 : decode cJ9_min_7cf53 10 = .ok (.ireturn, 1) := dc0 (j := 10) sJ9_min_7cf53_0 rfl op_172
theorem sJ0_length_8abf5_0 : sgm cJ0_length_8abf5 0 [42, 180, 0, 9, 190, 42, 182, 1, 79, 122, 172] := by decide +kernel
theorem dJ0_length_8abf5_0 : decode cJ0_length_8abf5 0 = .ok (.aload_n 0, 1) := dc0 (j := 0) sJ0_length_8abf5_0 rfl op_42
theorem dJ0_length_8abf5_1 : decode cJ0_length_8abf5 1 = .ok (.getfield 9, 3) := dcB (j := 1) (f := Instr.getfield) sJ0_length_8abf5_0 rfl op_180 rfl
theorem dJ0_length_8abf5_4 : decode cJ0_length_8abf5 4 = .ok (.arraylength, 1) := dc0 (j := 4) sJ0_length_8abf5_0 rfl op_190
theorem dJ0_length_8abf5_5 : decode cJ0_length_8abf5 5 = .ok (.aload_n 0, 1) := dc0 (j := 5) sJ0_length_8abf5_0 rfl op_42
theorem dJ0_length_8abf5_6 : decode cJ0_length_8abf5 6 = .ok (.invokevirtual 335, 3) := dcB (j := 6) (f := Instr.invokevirtual) sJ0_length_8abf5_0 rfl op_182 rfl
theorem dJ0_length_8abf5_9 : decode cJ0_length_8abf5 9 = .ok (.ishr, 1) := dc0 (j := 9) sJ0_length_8abf5_0 rfl op_122
theorem dJ0_length_8abf5_10 : decode cJ0_length_8abf5 10 = .ok (.ireturn, 1) := dc0 (j := 10) sJ0_length_8abf5_0 rfl op_172
theorem sJ0_charAt_5068e_0 : sgm cJ0_charAt_5068e 0 [42, 182, 1, 236, 153, 0, 12, 42, 180, 0, 9, 27, 184, 1, 239, 172, 42, 180, 0, 9, 27, 184, 1, 242, 172] := by decide +kernel
theorem dJ0_charAt_5068e_0 : decode cJ0_charAt_5068e 0 = .ok (.aload_n 0, 1) := dc0 (j := 0) sJ0_charAt_5068e_0 rfl op_42
theorem dJ0_charAt_5068e_1 : decode cJ0_charAt_5068e 1 = .ok (.invokevirtual 492, 3) := dcB (j := 1) (f := Instr.invokevirtual) sJ0_charAt_5068e_0 rfl op_182 rfl
theorem dJ0_charAt_5068e_4 : decode cJ0_charAt_5068e 4 = .ok (.ifCond .eq 12, 3) := dcTp (j := 4) (v := 12) (f := Instr.ifCond .eq) sJ0_charAt_5068e_0 rfl op_153 rfl rfl
theorem dJ0_charAt_5068e_7 : decode cJ0_charAt_5068e 7 = .ok (.aload_n 0, 1) := dc0 (j := 7) sJ0_charAt_5068e_0 rfl op_42
theorem dJ0_charAt_5068e_8 : decode cJ0_charAt_5068e 8 = .ok (.getfield 9, 3) := dcB (j := 8) (f := Instr.getfield) sJ0_charAt_5068e_0 rfl op_180 rfl
theorem dJ0_charAt_5068e_11 : decode cJ0_charAt_5068e 11 = .ok (.iload_n 1, 1) := dc0 (j := 11) sJ0_charAt_5068e_0 rfl op_27
theorem dJ0_charAt_5068e_12 : decode cJ0_charAt_5068e 12 = .ok (.invokestatic 495, 3) := dcB (j := 12) (f := Instr.invokestatic) sJ0_charAt_5068e_0 rfl op_184 rfl
theorem dJ0_charAt_5068e_15 : decode cJ0_charAt_5068e 15 = .ok (.ireturn, 1) := dc0 (j := 15) sJ0_charAt_5068e_0 rfl op_172
theorem dJ0_charAt_5068e_16 : decode cJ0_charAt_5068e 16 = .ok (.aload_n 0, 1) := dc0 (j := 16) sJ0_charAt_5068e_0 rfl op_42
theorem dJ0_charAt_5068e_17 : decode cJ0_charAt_5068e 17 = .ok (.getfield 9, 3) := dcB (j := 17) (f := Instr.getfield) sJ0_charAt_5068e_0 rfl op_180 rfl
theorem dJ0_charAt_5068e_20 : decode cJ0_charAt_5068e 20 = .ok (.iload_n 1, 1) := dc0 (j := 20) sJ0_charAt_5068e_0 rfl op_27
theorem dJ0_charAt_5068e_21 : decode cJ0_charAt_5068e 21 = .ok (.invokestatic 498, 3) := dcB (j := 21) (f := Instr.invokestatic) sJ0_charAt_5068e_0 rfl op_184 rfl
theorem dJ0_charAt_5068e_24 : decode cJ0_charAt_5068e 24 = .ok (.ireturn, 1) := dc0 (j := 24) sJ0_charAt_5068e_0 rfl op_172
theorem sJ0_coder_7d493_0 : sgm cJ0_coder_7d493 0 [178, 0, 38, 153, 0, 10, 42, 180, 0, 15, 167, 0, 4, 4, 172] := by decide +kernel
theorem dJ0_coder_7d493_0 : decode cJ0_coder_7d493 0 = .ok (.getstatic 38, 3) := dcB (j := 0) (f := Instr.getstatic) sJ0_coder_7d493_0 rfl op_178 rfl
theorem dJ0_coder_7d493_3 : decode cJ0_coder_7d493 3 = .ok (.ifCond .eq 10, 3) := dcTp (j := 3) (v := 10) (f := Instr.ifCond .eq) sJ0_coder_7d493_0 rfl op_153 rfl rfl
theorem dJ0_coder_7d493_6 : decode cJ0_coder_7d493 6 = .ok (.aload_n 0, 1) := dc0 (j := 6) sJ0_coder_7d493_0 rfl op_42
theorem dJ0_coder_7d493_7 : decode cJ0_coder_7d493 7 = .ok (.getfield 15, 3) := dcB (j := 7) (f := Instr.getfield) sJ0_coder_7d493_0 rfl op_180 rfl
theorem dJ0_coder_7d493_10 : decode cJ0_coder_7d493 10 = .ok (.goto 4, 3) := dcTp (j := 10) (v := 4) (f := Instr.goto) sJ0_coder_7d493_0 rfl op_167 rfl rfl
theorem dJ0_coder_7d493_13 : decode cJ0_coder_7d493 13 = .ok (.iconst 1, 1) := dc0 (j := 13) sJ0_coder_7d493_0 rfl op_4
theorem dJ0_coder_7d493_14 : decode cJ0_coder_7d493 14 = .ok (.ireturn, 1) := dc0 (j := 14) sJ0_coder_7d493_0 rfl op_172
theorem sJ0_isLatin1_aae02_0 : sgm cJ0_isLatin1_aae02 0 [178, 0, 38, 153, 0, 14, 42, 180, 0, 15, 154, 0, 7, 4, 167, 0, 4, 3, 172] := by decide +kernel
theorem dJ0_isLatin1_aae02_0 : decode cJ0_isLatin1_aae02 0 = .ok (.getstatic 38, 3) := dcB (j := 0) (f := Instr.getstatic) sJ0_isLatin1_aae02_0 rfl op_178 rfl
theorem dJ0_isLatin1_aae02_3 : decode cJ0_isLatin1_aae02 3 = .ok (.ifCond .eq 14, 3) := dcTp (j := 3) (v := 14) (f := Instr.ifCond .eq) sJ0_isLatin1_aae02_0 rfl op_153 rfl rfl
theorem dJ0_isLatin1_aae02_6 : decode cJ0_isLatin1_aae02 6 = .ok (.aload_n 0, 1) := dc0 (j := 6) sJ0_isLatin1_aae02_0 rfl op_42
theorem dJ0_isLatin1_aae02_7 : decode cJ0_isLatin1_aae02 7 = .ok (.getfield 15, 3) := dcB (j := 7) (f := Instr.getfield) sJ0_isLatin1_aae02_0 rfl op_180 rfl
theorem dJ0_isLatin1_aae02_10 : decode cJ0_isLatin1_aae02 10 = .ok (.ifCond .ne 7, 3) := dcTp (j := 10) (v := 7) (f := Instr.ifCond .ne) sJ0_isLatin1_aae02_0 rfl op_154 rfl rfl
theorem dJ0_isLatin1_aae02_13 : decode cJ0_isLatin1_aae02 13 = .ok (.iconst 1, 1) := dc0 (j := 13) sJ0_isLatin1_aae02_0 rfl op_4
theorem dJ0_isLatin1_aae02_14 : decode cJ0_isLatin1_aae02 14 = .ok (.goto 4, 3) := dcTp (j := 14) (v := 4) (f := Instr.goto) sJ0_isLatin1_aae02_0 rfl op_167 rfl rfl
theorem dJ0_isLatin1_aae02_17 : decode cJ0_isLatin1_aae02 17 = .ok (.iconst 0, 1) := dc0 (j := 17) sJ0_isLatin1_aae02_0 rfl op_3
theorem dJ0_isLatin1_aae02_18 : decode cJ0_isLatin1_aae02 18 = .ok (.ireturn, 1) := dc0 (j := 18) sJ0_isLatin1_aae02_0 rfl op_172
theorem sJ0_checkIndex_df160_0 : sgm cJ0_checkIndex_df160 0 [26, 27, 178, 4, 29, 184, 4, 35, 87, 177] := by decide +kernel
theorem dJ0_checkIndex_df160_0 : decode cJ0_checkIndex_df160 0 = .ok (.iload_n 0, 1) := dc0 (j := 0) sJ0_checkIndex_df160_0 rfl op_26
theorem dJ0_checkIndex_df160_1 : decode cJ0_checkIndex_df160 1 = .ok (.iload_n 1, 1) := dc0 (j := 1) sJ0_checkIndex_df160_0 rfl op_27
theorem dJ0_checkIndex_df160_2 : decode cJ0_checkIndex_df160 2 = .ok (.getstatic 1053, 3) := dcB (j := 2) (f := Instr.getstatic) sJ0_checkIndex_df160_0 rfl op_178 rfl
theorem dJ0_checkIndex_df160_5 : decode cJ0_checkIndex_df160 5 = .ok (.invokestatic 1059, 3) := dcB (j := 5) (f := Instr.invokestatic) sJ0_checkIndex_df160_0 rfl op_184 rfl
theorem dJ0_checkIndex_df160_8 : decode cJ0_checkIndex_df160 8 = .ok (.pop, 1) := dc0 (j := 8) sJ0_checkIndex_df160_0 rfl op_87
theorem dJ0_checkIndex_df160_9 : decode cJ0_checkIndex_df160 9 = .ok (.return_, 1) := dc0 (j := 9) sJ0_checkIndex_df160_0 rfl op_177
theorem sJ1_charAt_3b067_0 : sgm cJ1_charAt_3b067 0 [27, 42, 190, 184, 0, 9, 42, 27, 51, 17, 0, 255, 126, 146, 172] := by decide +kernel
theorem dJ1_charAt_3b067_0 : decode cJ1_charAt_3b067 0 = .ok (.iload_n 1, 1) := dc0 (j := 0) sJ1_charAt_3b067_0 rfl op_27
theorem dJ1_charAt_3b067_1 : decode cJ1_charAt_3b067 1 = .ok (.aload_n 0, 1) := dc0 (j := 1) sJ1_charAt_3b067_0 rfl op_42
theorem dJ1_charAt_3b067_2 : decode cJ1_charAt_3b067 2 = .ok (.arraylength, 1) := dc0 (j := 2) sJ1_charAt_3b067_0 rfl op_190
theorem dJ1_charAt_3b067_3 : decode cJ1_charAt_3b067 3 = .ok (.invokestatic 9, 3) := dcB (j := 3) (f := Instr.invokestatic) sJ1_charAt_3b067_0 rfl op_184 rfl
theorem dJ1_charAt_3b067_6 : decode cJ1_charAt_3b067 6 = .ok (.aload_n 0, 1) := dc0 (j := 6) sJ1_charAt_3b067_0 rfl op_42
theorem dJ1_charAt_3b067_7 : decode cJ1_charAt_3b067 7 = .ok (.iload_n 1, 1) := dc0 (j := 7) sJ1_charAt_3b067_0 rfl op_27
theorem dJ1_charAt_3b067_8 : decode cJ1_charAt_3b067 8 = .ok (.baload, 1) := dc0 (j := 8) sJ1_charAt_3b067_0 rfl op_51
theorem dJ1_charAt_3b067_9 : decode cJ1_charAt_3b067 9 = .ok (.sipush 255, 3) := dcTp (j := 9) (v := 255) (f := Instr.sipush) sJ1_charAt_3b067_0 rfl op_17 rfl rfl
theorem dJ1_charAt_3b067_12 : decode cJ1_charAt_3b067 12 = .ok (.iand, 1) := dc0 (j := 12) sJ1_charAt_3b067_0 rfl op_126
theorem dJ1_charAt_3b067_13 : decode cJ1_charAt_3b067 13 = .ok (.i2c, 1) := dc0 (j := 13) sJ1_charAt_3b067_0 rfl op_146
theorem dJ1_charAt_3b067_14 : decode cJ1_charAt_3b067 14 = .ok (.ireturn, 1) := dc0 (j := 14) sJ1_charAt_3b067_0 rfl op_172
theorem sJ2_getChar_3b067_0 : sgm cJ2_getChar_3b067 0 [178, 0, 44, 154, 0, 25, 27, 155, 0, 11, 27, 42, 184, 0, 48, 161, 0, 13, 187, 0, 52, 89, 18, 54, 183, 0, 56, 191, 27, 4, 120, 60, 42, 27] := by decide +kernel
theorem dJ2_getChar_3b067_0 : decode cJ2_getChar_3b067 0 = .ok (.getstatic 44, 3) := dcB (j := 0) (f := Instr.getstatic) sJ2_getChar_3b067_0 rfl op_178 rfl
theorem dJ2_getChar_3b067_3 : decode cJ2_getChar_3b067 3 = .ok (.ifCond .ne 25, 3) := dcTp (j := 3) (v := 25) (f := Instr.ifCond .ne) sJ2_getChar_3b067_0 rfl op_154 rfl rfl
theorem dJ2_getChar_3b067_6 : decode cJ2_getChar_3b067 6 = .ok (.iload_n 1, 1) := dc0 (j := 6) sJ2_getChar_3b067_0 rfl op_27
theorem dJ2_getChar_3b067_7 : decode cJ2_getChar_3b067 7 = .ok (.ifCond .lt 11, 3) := dcTp (j := 7) (v := 11) (f := Instr.ifCond .lt) sJ2_getChar_3b067_0 rfl op_155 rfl rfl
theorem dJ2_getChar_3b067_10 : decode cJ2_getChar_3b067 10 = .ok (.iload_n 1, 1) := dc0 (j := 10) sJ2_getChar_3b067_0 rfl op_27
theorem dJ2_getChar_3b067_11 : decode cJ2_getChar_3b067 11 = .ok (.aload_n 0, 1) := dc0 (j := 11) sJ2_getChar_3b067_0 rfl op_42
theorem dJ2_getChar_3b067_12 : decode cJ2_getChar_3b067 12 = .ok (.invokestatic 48, 3) := dcB (j := 12) (f := Instr.invokestatic) sJ2_getChar_3b067_0 rfl op_184 rfl
theorem dJ2_getChar_3b067_15 : decode cJ2_getChar_3b067 15 = .ok (.if_icmp .lt 13, 3) := dcTp (j := 15) (v := 13) (f := Instr.if_icmp .lt) sJ2_getChar_3b067_0 rfl op_161 rfl rfl
theorem dJ2_getChar_3b067_18 : decode cJ2_getChar_3b067 18 = .ok (.new 52, 3) := dcB (j := 18) (f := Instr.new) sJ2_getChar_3b067_0 rfl op_187 rfl
theorem dJ2_getChar_3b067_21 : decode cJ2_getChar_3b067 21 = .ok (.dup, 1) := dc0 (j := 21) sJ2_getChar_3b067_0 rfl op_89
theorem dJ2_getChar_3b067_22 : decode cJ2_getChar_3b067 22 = .ok (.ldc 54, 2) := dcA (j := 22) (f := Instr.ldc) sJ2_getChar_3b067_0 rfl op_18
theorem dJ2_getChar_3b067_24 : decode cJ2_getChar_3b067 24 = .ok (.invokespecial 56, 3) := dcB (j := 24) (f := Instr.invokespecial) sJ2_getChar_3b067_0 rfl op_183 rfl
theorem dJ2_getChar_3b067_27 : decode cJ2_getChar_3b067 27 = .ok (.athrow, 1) := dc0 (j := 27) sJ2_getChar_3b067_0 rfl op_191
theorem dJ2_getChar_3b067_28 : decode cJ2_getChar_3b067 28 = .ok (.iload_n 1, 1) := dc0 (j := 28) sJ2_getChar_3b067_0 rfl op_27
theorem dJ2_getChar_3b067_29 : decode cJ2_getChar_3b067 29 = .ok (.iconst 1, 1) := dc0 (j := 29) sJ2_getChar_3b067_0 rfl op_4
theorem dJ2_getChar_3b067_30 : decode cJ2_getChar_3b067 30 = .ok (.ishl, 1) := dc0 (j := 30) sJ2_getChar_3b067_0 rfl op_120
theorem dJ2_getChar_3b067_31 : decode cJ2_getChar_3b067 31 = .ok (.istore_n 1, 1) := dc0 (j := 31) sJ2_getChar_3b067_0 rfl op_60
theorem dJ2_getChar_3b067_32 : decode cJ2_getChar_3b067 32 = .ok (.aload_n 0, 1) := dc0 (j := 32) sJ2_getChar_3b067_0 rfl op_42
theorem dJ2_getChar_3b067_33 : decode cJ2_getChar_3b067 33 = .ok (.iload_n 1, 1) := dc0 (j := 33) sJ2_getChar_3b067_0 rfl op_27
theorem sJ2_getChar_3b067_34 : sgm cJ2_getChar_3b067 34 [132, 1, 1, 51, 17, 0, 255, 126, 178, 0, 59, 120, 42, 27, 51, 17, 0, 255, 126, 178, 0, 63, 120, 128, 146, 172] := by decide +kernel
theorem dJ2_getChar_3b067_34 : decode cJ2_getChar_3b067 34 = .ok (.iinc 1 1, 3) := dcIp (j := 0) sJ2_getChar_3b067_34 rfl op_132 rfl
theorem dJ2_getChar_3b067_37 : decode cJ2_getChar_3b067 37 = .ok (.baload, 1) := dc0 (j := 3) sJ2_getChar_3b067_34 rfl op_51
theorem dJ2_getChar_3b067_38 : decode cJ2_getChar_3b067 38 = .ok (.sipush 255, 3) := dcTp (j := 4) (v := 255) (f := Instr.sipush) sJ2_getChar_3b067_34 rfl op_17 rfl rfl
theorem dJ2_getChar_3b067_41 : decode cJ2_getChar_3b067 41 = .ok (.iand, 1) := dc0 (j := 7) sJ2_getChar_3b067_34 rfl op_126
theorem dJ2_getChar_3b067_42 : decode cJ2_getChar_3b067 42 = .ok (.getstatic 59, 3) := dcB (j := 8) (f := Instr.getstatic) sJ2_getChar_3b067_34 rfl op_178 rfl
theorem dJ2_getChar_3b067_45 : decode cJ2_getChar_3b067 45 = .ok (.ishl, 1) := dc0 (j := 11) sJ2_getChar_3b067_34 rfl op_120
theorem dJ2_getChar_3b067_46 : decode cJ2_getChar_3b067 46 = .ok (.aload_n 0, 1) := dc0 (j := 12) sJ2_getChar_3b067_34 rfl op_42
theorem dJ2_getChar_3b067_47 : decode cJ2_getChar_3b067 47 = .ok (.iload_n 1, 1) := dc0 (j := 13) sJ2_getChar_3b067_34 rfl op_27
theorem dJ2_getChar_3b067_48 : decode cJ2_getChar_3b067 48 = .ok (.baload, 1) := dc0 (j := 14) sJ2_getChar_3b067_34 rfl op_51
theorem dJ2_getChar_3b067_49 : decode cJ2_getChar_3b067 49 = .ok (.sipush 255, 3) := dcTp (j := 15) (v := 255) (f := Instr.sipush) sJ2_getChar_3b067_34 rfl op_17 rfl rfl
theorem dJ2_getChar_3b067_52 : decode cJ2_getChar_3b067 52 = .ok (.iand, 1) := dc0 (j := 18) sJ2_getChar_3b067_34 rfl op_126
theorem dJ2_getChar_3b067_53 : decode cJ2_getChar_3b067 53 = .ok (.getstatic 63, 3) := dcB (j := 19) (f := Instr.getstatic) sJ2_getChar_3b067_34 rfl op_178 rfl
theorem dJ2_getChar_3b067_56 : decode cJ2_getChar_3b067 56 = .ok (.ishl, 1) := dc0 (j := 22) sJ2_getChar_3b067_34 rfl op_120
theorem dJ2_getChar_3b067_57 : decode cJ2_getChar_3b067 57 = .ok (.ior, 1) := dc0 (j := 23) sJ2_getChar_3b067_34 rfl op_128
theorem dJ2_getChar_3b067_58 : decode cJ2_getChar_3b067 58 = .ok (.i2c, 1) := dc0 (j := 24) sJ2_getChar_3b067_34 rfl op_146
theorem dJ2_getChar_3b067_59 : decode cJ2_getChar_3b067 59 = .ok (.ireturn, 1) := dc0 (j := 25) sJ2_getChar_3b067_34 rfl op_172
theorem sJ2_length_9d52b_0 : sgm cJ2_length_9d52b 0 [42, 190, 4, 122, 172] := by decide +kernel
theorem dJ2_length_9d52b_0 : decode cJ2_length_9d52b 0 = .ok (.aload_n 0, 1) := dc0 (j := 0) sJ2_length_9d52b_0 rfl op_42
theorem dJ2_length_9d52b_1 : decode cJ2_length_9d52b 1 = .ok (.arraylength, 1) := dc0 (j := 1) sJ2_length_9d52b_0 rfl op_190
theorem dJ2_length_9d52b_2 : decode cJ2_length_9d52b 2 = .ok (.iconst 1, 1) := dc0 (j := 2) sJ2_length_9d52b_0 rfl op_4
theorem dJ2_length_9d52b_3 : decode cJ2_length_9d52b 3 = .ok (.ishr, 1) := dc0 (j := 3) sJ2_length_9d52b_0 rfl op_122
theorem dJ2_length_9d52b_4 : decode cJ2_length_9d52b 4 = .ok (.ireturn, 1) := dc0 (j := 4) sJ2_length_9d52b_0 rfl op_172
theorem sJ2_charAt_3b067_0 : sgm cJ2_charAt_3b067 0 [27, 42, 184, 0, 67, 42, 27, 184, 0, 71, 172] := by decide +kernel
theorem dJ2_charAt_3b067_0 : decode cJ2_charAt_3b067 0 = .ok (.iload_n 1, 1) := dc0 (j := 0) sJ2_charAt_3b067_0 rfl op_27
theorem dJ2_charAt_3b067_1 : decode cJ2_charAt_3b067 1 = .ok (.aload_n 0, 1) := dc0 (j := 1) sJ2_charAt_3b067_0 rfl op_42
theorem dJ2_charAt_3b067_2 : decode cJ2_charAt_3b067 2 = .ok (.invokestatic 67, 3) := dcB (j := 2) (f := Instr.invokestatic) sJ2_charAt_3b067_0 rfl op_184 rfl
theorem dJ2_charAt_3b067_5 : decode cJ2_charAt_3b067 5 = .ok (.aload_n 0, 1) := dc0 (j := 5) sJ2_charAt_3b067_0 rfl op_42
theorem dJ2_charAt_3b067_6 : decode cJ2_charAt_3b067 6 = .ok (.iload_n 1, 1) := dc0 (j := 6) sJ2_charAt_3b067_0 rfl op_27
theorem dJ2_charAt_3b067_7 : decode cJ2_charAt_3b067 7 = .ok (.invokestatic 71, 3) := dcB (j := 7) (f := Instr.invokestatic) sJ2_charAt_3b067_0 rfl op_184 rfl
theorem dJ2_charAt_3b067_10 : decode cJ2_charAt_3b067 10 = .ok (.ireturn, 1) := dc0 (j := 10) sJ2_charAt_3b067_0 rfl op_172
theorem sJ2_checkIndex_2214a_0 : sgm cJ2_checkIndex_2214a 0 [26, 43, 184, 0, 48, 184, 1, 158, 177] := by decide +kernel
theorem dJ2_checkIndex_2214a_0 : decode cJ2_checkIndex_2214a 0 = .ok (.iload_n 0, 1) := dc0 (j := 0) sJ2_checkIndex_2214a_0 rfl op_26
theorem dJ2_checkIndex_2214a_1 : decode cJ2_checkIndex_2214a 1 = .ok (.aload_n 1, 1) := dc0 (j := 1) sJ2_checkIndex_2214a_0 rfl op_43
theorem dJ2_checkIndex_2214a_2 : decode cJ2_checkIndex_2214a 2 = .ok (.invokestatic 48, 3) := dcB (j := 2) (f := Instr.invokestatic) sJ2_checkIndex_2214a_0 rfl op_184 rfl
theorem dJ2_checkIndex_2214a_5 : decode cJ2_checkIndex_2214a 5 = .ok (.invokestatic 414, 3) := dcB (j := 5) (f := Instr.invokestatic) sJ2_checkIndex_2214a_0 rfl op_184 rfl
theorem dJ2_checkIndex_2214a_8 : decode cJ2_checkIndex_2214a 8 = .ok (.return_, 1) := dc0 (j := 8) sJ2_checkIndex_2214a_0 rfl op_177
theorem sJ7_fill_d0a16_0 : sgm cJ7_fill_d0a16 0 [3, 62, 42, 190, 54, 4, 29, 21, 4, 162, 0, 13, 42, 29, 31, 80, 132, 3, 1, 167, 255, 243, 177] := by decide +kernel
theorem dJ7_fill_d0a16_0 : decode cJ7_fill_d0a16 0 = .ok (.iconst 0, 1) := dc0 (j := 0) sJ7_fill_d0a16_0 rfl op_3
theorem dJ7_fill_d0a16_1 : decode cJ7_fill_d0a16 1 = .ok (.istore_n 3, 1) := dc0 (j := 1) sJ7_fill_d0a16_0 rfl op_62
theorem dJ7_fill_d0a16_2 : decode cJ7_fill_d0a16 2 = .ok (.aload_n 0, 1) := dc0 (j := 2) sJ7_fill_d0a16_0 rfl op_42
theorem dJ7_fill_d0a16_3 : decode cJ7_fill_d0a16 3 = .ok (.arraylength, 1) := dc0 (j := 3) sJ7_fill_d0a16_0 rfl op_190
theorem dJ7_fill_d0a16_4 : decode cJ7_fill_d0a16 4 = .ok (.istore 4, 2) := dcA (j := 4) (f := Instr.istore) sJ7_fill_d0a16_0 rfl op_54
theorem dJ7_fill_d0a16_6 : decode cJ7_fill_d0a16 6 = .ok (.iload_n 3, 1) := dc0 (j := 6) sJ7_fill_d0a16_0 rfl op_29
theorem dJ7_fill_d0a16_7 : decode cJ7_fill_d0a16 7 = .ok (.iload 4, 2) := dcA (j := 7) (f := Instr.iload) sJ7_fill_d0a16_0 rfl op_21
theorem dJ7_fill_d0a16_9 : decode cJ7_fill_d0a16 9 = .ok (.if_icmp .ge 13, 3) := dcTp (j := 9) (v := 13) (f := Instr.if_icmp .ge) sJ7_fill_d0a16_0 rfl op_162 rfl rfl
theorem dJ7_fill_d0a16_12 : decode cJ7_fill_d0a16 12 = .ok (.aload_n 0, 1) := dc0 (j := 12) sJ7_fill_d0a16_0 rfl op_42
theorem dJ7_fill_d0a16_13 : decode cJ7_fill_d0a16 13 = .ok (.iload_n 3, 1) := dc0 (j := 13) sJ7_fill_d0a16_0 rfl op_29
theorem dJ7_fill_d0a16_14 : decode cJ7_fill_d0a16 14 = .ok (.lload_n 1, 1) := dc0 (j := 14) sJ7_fill_d0a16_0 rfl op_31
theorem dJ7_fill_d0a16_15 : decode cJ7_fill_d0a16 15 = .ok (.lastore, 1) := dc0 (j := 15) sJ7_fill_d0a16_0 rfl op_80
theorem dJ7_fill_d0a16_16 : decode cJ7_fill_d0a16 16 = .ok (.iinc 3 1, 3) := dcIp (j := 16) sJ7_fill_d0a16_0 rfl op_132 rfl
theorem dJ7_fill_d0a16_19 : decode cJ7_fill_d0a16 19 = .ok (.goto (-13), 3) := dcTn (j := 19) (v := 13) (f := Instr.goto) sJ7_fill_d0a16_0 rfl op_167 rfl rfl rfl
theorem dJ7_fill_d0a16_22 : decode cJ7_fill_d0a16 22 = .ok (.return_, 1) := dc0 (j := 22) sJ7_fill_d0a16_0 rfl op_177
theorem sJ7_fill_53178_0 : sgm cJ7_fill_53178 0 [3, 61, 42, 190, 62, 28, 29, 162, 0, 13, 42, 28, 27, 79, 132, 2, 1, 167, 255, 244, 177] := by decide +kernel
theorem dJ7_fill_53178_0 : decode cJ7_fill_53178 0 = .ok (.iconst 0, 1) := dc0 (j := 0) sJ7_fill_53178_0 rfl op_3
theorem dJ7_fill_53178_1 : decode cJ7_fill_53178 1 = .ok (.istore_n 2, 1) := dc0 (j := 1) sJ7_fill_53178_0 rfl op_61
theorem dJ7_fill_53178_2 : decode cJ7_fill_53178 2 = .ok (.aload_n 0, 1) := dc0 (j := 2) sJ7_fill_53178_0 rfl op_42
theorem dJ7_fill_53178_3 : decode cJ7_fill_53178 3 = .ok (.arraylength, 1) := dc0 (j := 3) sJ7_fill_53178_0 rfl op_190
theorem dJ7_fill_53178_4 : decode cJ7_fill_53178 4 = .ok (.istore_n 3, 1) := dc0 (j := 4) sJ7_fill_53178_0 rfl op_62
theorem dJ7_fill_53178_5 : decode cJ7_fill_53178 5 = .ok (.iload_n 2, 1) := dc0 (j := 5) sJ7_fill_53178_0 rfl op_28
theorem dJ7_fill_53178_6 : decode cJ7_fill_53178 6 = .ok (.iload_n 3, 1) := dc0 (j := 6) sJ7_fill_53178_0 rfl op_29
theorem dJ7_fill_53178_7 : decode cJ7_fill_53178 7 = .ok (.if_icmp .ge 13, 3) := dcTp (j := 7) (v := 13) (f := Instr.if_icmp .ge) sJ7_fill_53178_0 rfl op_162 rfl rfl
theorem dJ7_fill_53178_10 : decode cJ7_fill_53178 10 = .ok (.aload_n 0, 1) := dc0 (j := 10) sJ7_fill_53178_0 rfl op_42
theorem dJ7_fill_53178_11 : decode cJ7_fill_53178 11 = .ok (.iload_n 2, 1) := dc0 (j := 11) sJ7_fill_53178_0 rfl op_28
theorem dJ7_fill_53178_12 : decode cJ7_fill_53178 12 = .ok (.iload_n 1, 1) := dc0 (j := 12) sJ7_fill_53178_0 rfl op_27
theorem dJ7_fill_53178_13 : decode cJ7_fill_53178 13 = .ok (.iastore, 1) := dc0 (j := 13) sJ7_fill_53178_0 rfl op_79
theorem dJ7_fill_53178_14 : decode cJ7_fill_53178 14 = .ok (.iinc 2 1, 3) := dcIp (j := 14) sJ7_fill_53178_0 rfl op_132 rfl
theorem dJ7_fill_53178_17 : decode cJ7_fill_53178 17 = .ok (.goto (-12), 3) := dcTn (j := 17) (v := 12) (f := Instr.goto) sJ7_fill_53178_0 rfl op_167 rfl rfl rfl
theorem dJ7_fill_53178_20 : decode cJ7_fill_53178 20 = .ok (.return_, 1) := dc0 (j := 20) sJ7_fill_53178_0 rfl op_177
theorem sJ3_checkIndex_8e157_0 : sgm cJ3_checkIndex_8e157 0 [26, 155, 0, 8, 26, 27, 161, 0, 10, 44, 26, 27, 184, 0, 95, 191, 26, 172] := by decide +kernel
theorem dJ3_checkIndex_8e157_0 : decode cJ3_checkIndex_8e157 0 = .ok (.iload_n 0, 1) := dc0 (j := 0) sJ3_checkIndex_8e157_0 rfl op_26
theorem dJ3_checkIndex_8e157_1 : decode cJ3_checkIndex_8e157 1 = .ok (.ifCond .lt 8, 3) := dcTp (j := 1) (v := 8) (f := Instr.ifCond .lt) sJ3_checkIndex_8e157_0 rfl op_155 rfl rfl
theorem dJ3_checkIndex_8e157_4 : decode cJ3_checkIndex_8e157 4 = .ok (.iload_n 0, 1) := dc0 (j := 4) sJ3_checkIndex_8e157_0 rfl op_26
theorem dJ3_checkIndex_8e157_5 : decode cJ3_checkIndex_8e157 5 = .ok (.iload_n 1, 1) := dc0 (j := 5) sJ3_checkIndex_8e157_0 rfl op_27
theorem dJ3_checkIndex_8e157_6 : decode cJ3_checkIndex_8e157 6 = .ok (.if_icmp .lt 10, 3) := dcTp (j := 6) (v := 10) (f := Instr.if_icmp .lt) sJ3_checkIndex_8e157_0 rfl op_161 rfl rfl
theorem dJ3_checkIndex_8e157_9 : decode cJ3_checkIndex_8e157 9 = .ok (.aload_n 2, 1) := dc0 (j := 9) sJ3_checkIndex_8e157_0 rfl op_44
theorem dJ3_checkIndex_8e157_10 : decode cJ3_checkIndex_8e157 10 = .ok (.iload_n 0, 1) := dc0 (j := 10) sJ3_checkIndex_8e157_0 rfl op_26
theorem dJ3_checkIndex_8e157_11 : decode cJ3_checkIndex_8e157 11 = .ok (.iload_n 1, 1) := dc0 (j := 11) sJ3_checkIndex_8e157_0 rfl op_27
theorem dJ3_checkIndex_8e157_12 : decode cJ3_checkIndex_8e157 12 = .ok (.invokestatic 95, 3) := dcB (j := 12) (f := Instr.invokestatic) sJ3_checkIndex_8e157_0 rfl op_184 rfl
theorem dJ3_checkIndex_8e157_15 : decode cJ3_checkIndex_8e157 15 = .ok (.athrow, 1) := dc0 (j := 15) sJ3_checkIndex_8e157_0 rfl op_191
theorem dJ3_checkIndex_8e157_16 : decode cJ3_checkIndex_8e157 16 = .ok (.iload_n 0, 1) := dc0 (j := 16) sJ3_checkIndex_8e157_0 rfl op_26
theorem dJ3_checkIndex_8e157_17 : decode cJ3_checkIndex_8e157 17 = .ok (.ireturn, 1) := dc0 (j := 17) sJ3_checkIndex_8e157_0 rfl op_172
theorem sL_law_0 : sgm cL_law 0 [187, 0, 7, 89, 183, 0, 9, 76, 187, 0, 10, 89, 183, 0, 12, 77, 3, 62, 29, 42, 190, 16, 6, 100, 163, 5, 180, 42, 29, 46, 16, 63, 126] := by decide +kernel
theorem dL_law_0 : decode cL_law 0 = .ok (.new 7, 3) := dcB (j := 0) (f := Instr.new) sL_law_0 rfl op_187 rfl
theorem dL_law_3 : decode cL_law 3 = .ok (.dup, 1) := dc0 (j := 3) sL_law_0 rfl op_89
theorem dL_law_4 : decode cL_law 4 = .ok (.invokespecial 9, 3) := dcB (j := 4) (f := Instr.invokespecial) sL_law_0 rfl op_183 rfl
theorem dL_law_7 : decode cL_law 7 = .ok (.astore_n 1, 1) := dc0 (j := 7) sL_law_0 rfl op_76
theorem dL_law_8 : decode cL_law 8 = .ok (.new 10, 3) := dcB (j := 8) (f := Instr.new) sL_law_0 rfl op_187 rfl
theorem dL_law_11 : decode cL_law 11 = .ok (.dup, 1) := dc0 (j := 11) sL_law_0 rfl op_89
theorem dL_law_12 : decode cL_law 12 = .ok (.invokespecial 12, 3) := dcB (j := 12) (f := Instr.invokespecial) sL_law_0 rfl op_183 rfl
theorem dL_law_15 : decode cL_law 15 = .ok (.astore_n 2, 1) := dc0 (j := 15) sL_law_0 rfl op_77
theorem dL_law_16 : decode cL_law 16 = .ok (.iconst 0, 1) := dc0 (j := 16) sL_law_0 rfl op_3
theorem dL_law_17 : decode cL_law 17 = .ok (.istore_n 3, 1) := dc0 (j := 17) sL_law_0 rfl op_62
theorem dL_law_18 : decode cL_law 18 = .ok (.iload_n 3, 1) := dc0 (j := 18) sL_law_0 rfl op_29
theorem dL_law_19 : decode cL_law 19 = .ok (.aload_n 0, 1) := dc0 (j := 19) sL_law_0 rfl op_42
theorem dL_law_20 : decode cL_law 20 = .ok (.arraylength, 1) := dc0 (j := 20) sL_law_0 rfl op_190
theorem dL_law_21 : decode cL_law 21 = .ok (.bipush 6, 2) := dcSp (j := 21) (a := 6) (f := Instr.bipush) sL_law_0 rfl op_16 rfl
theorem dL_law_23 : decode cL_law 23 = .ok (.isub, 1) := dc0 (j := 23) sL_law_0 rfl op_100
theorem dL_law_24 : decode cL_law 24 = .ok (.if_icmp .gt 1460, 3) := dcTp (j := 24) (v := 1460) (f := Instr.if_icmp .gt) sL_law_0 rfl op_163 rfl rfl
theorem dL_law_27 : decode cL_law 27 = .ok (.aload_n 0, 1) := dc0 (j := 27) sL_law_0 rfl op_42
theorem dL_law_28 : decode cL_law 28 = .ok (.iload_n 3, 1) := dc0 (j := 28) sL_law_0 rfl op_29
theorem dL_law_29 : decode cL_law 29 = .ok (.iaload, 1) := dc0 (j := 29) sL_law_0 rfl op_46
theorem dL_law_30 : decode cL_law 30 = .ok (.bipush 63, 2) := dcSp (j := 30) (a := 63) (f := Instr.bipush) sL_law_0 rfl op_16 rfl
theorem dL_law_32 : decode cL_law 32 = .ok (.iand, 1) := dc0 (j := 32) sL_law_0 rfl op_126
theorem dL_law_33 : decode cL_law 33 = .ok (.tableswitch 1445 0 41 #[183, 246, 269, 292, 325, 348, 381, 414, 447, 480, 513, 536, 559, 582, 615, 638, 651, 684, 697, 740, 773, 806, 829, 862, 885, 908, 921, 944, 993, 1016, 1049, 1092, 1125, 1158, 1181, 1214, 1237, 1280, 1353, 1376, 1399, 1422], 183) := by decide +kernel
theorem sL_law_216 : sgm cL_law 216 [43, 42, 29, 4, 96, 46, 42, 29, 5, 96, 46, 42, 29, 6, 96, 46, 42, 29, 7, 96, 46, 42, 29, 8, 96, 46, 182, 0, 13, 87, 44, 42, 29, 4, 96, 46] := by decide +kernel
theorem dL_law_216 : decode cL_law 216 = .ok (.aload_n 1, 1) := dc0 (j := 0) sL_law_216 rfl op_43
theorem dL_law_217 : decode cL_law 217 = .ok (.aload_n 0, 1) := dc0 (j := 1) sL_law_216 rfl op_42
theorem dL_law_218 : decode cL_law 218 = .ok (.iload_n 3, 1) := dc0 (j := 2) sL_law_216 rfl op_29
theorem dL_law_219 : decode cL_law 219 = .ok (.iconst 1, 1) := dc0 (j := 3) sL_law_216 rfl op_4
theorem dL_law_220 : decode cL_law 220 = .ok (.iadd, 1) := dc0 (j := 4) sL_law_216 rfl op_96
theorem dL_law_221 : decode cL_law 221 = .ok (.iaload, 1) := dc0 (j := 5) sL_law_216 rfl op_46
theorem dL_law_222 : decode cL_law 222 = .ok (.aload_n 0, 1) := dc0 (j := 6) sL_law_216 rfl op_42
theorem dL_law_223 : decode cL_law 223 = .ok (.iload_n 3, 1) := dc0 (j := 7) sL_law_216 rfl op_29
theorem dL_law_224 : decode cL_law 224 = .ok (.iconst 2, 1) := dc0 (j := 8) sL_law_216 rfl op_5
theorem dL_law_225 : decode cL_law 225 = .ok (.iadd, 1) := dc0 (j := 9) sL_law_216 rfl op_96
theorem dL_law_226 : decode cL_law 226 = .ok (.iaload, 1) := dc0 (j := 10) sL_law_216 rfl op_46
theorem dL_law_227 : decode cL_law 227 = .ok (.aload_n 0, 1) := dc0 (j := 11) sL_law_216 rfl op_42
theorem dL_law_228 : decode cL_law 228 = .ok (.iload_n 3, 1) := dc0 (j := 12) sL_law_216 rfl op_29
theorem dL_law_229 : decode cL_law 229 = .ok (.iconst 3, 1) := dc0 (j := 13) sL_law_216 rfl op_6
theorem dL_law_230 : decode cL_law 230 = .ok (.iadd, 1) := dc0 (j := 14) sL_law_216 rfl op_96
theorem dL_law_231 : decode cL_law 231 = .ok (.iaload, 1) := dc0 (j := 15) sL_law_216 rfl op_46
theorem dL_law_232 : decode cL_law 232 = .ok (.aload_n 0, 1) := dc0 (j := 16) sL_law_216 rfl op_42
theorem dL_law_233 : decode cL_law 233 = .ok (.iload_n 3, 1) := dc0 (j := 17) sL_law_216 rfl op_29
theorem dL_law_234 : decode cL_law 234 = .ok (.iconst 4, 1) := dc0 (j := 18) sL_law_216 rfl op_7
theorem dL_law_235 : decode cL_law 235 = .ok (.iadd, 1) := dc0 (j := 19) sL_law_216 rfl op_96
theorem dL_law_236 : decode cL_law 236 = .ok (.iaload, 1) := dc0 (j := 20) sL_law_216 rfl op_46
theorem dL_law_237 : decode cL_law 237 = .ok (.aload_n 0, 1) := dc0 (j := 21) sL_law_216 rfl op_42
theorem dL_law_238 : decode cL_law 238 = .ok (.iload_n 3, 1) := dc0 (j := 22) sL_law_216 rfl op_29
theorem dL_law_239 : decode cL_law 239 = .ok (.iconst 5, 1) := dc0 (j := 23) sL_law_216 rfl op_8
theorem dL_law_240 : decode cL_law 240 = .ok (.iadd, 1) := dc0 (j := 24) sL_law_216 rfl op_96
theorem dL_law_241 : decode cL_law 241 = .ok (.iaload, 1) := dc0 (j := 25) sL_law_216 rfl op_46
theorem dL_law_242 : decode cL_law 242 = .ok (.invokevirtual 13, 3) := dcB (j := 26) (f := Instr.invokevirtual) sL_law_216 rfl op_182 rfl
theorem dL_law_245 : decode cL_law 245 = .ok (.pop, 1) := dc0 (j := 29) sL_law_216 rfl op_87
theorem dL_law_246 : decode cL_law 246 = .ok (.aload_n 2, 1) := dc0 (j := 30) sL_law_216 rfl op_44
theorem dL_law_247 : decode cL_law 247 = .ok (.aload_n 0, 1) := dc0 (j := 31) sL_law_216 rfl op_42
theorem dL_law_248 : decode cL_law 248 = .ok (.iload_n 3, 1) := dc0 (j := 32) sL_law_216 rfl op_29
theorem dL_law_249 : decode cL_law 249 = .ok (.iconst 1, 1) := dc0 (j := 33) sL_law_216 rfl op_4
theorem dL_law_250 : decode cL_law 250 = .ok (.iadd, 1) := dc0 (j := 34) sL_law_216 rfl op_96
theorem dL_law_251 : decode cL_law 251 = .ok (.iaload, 1) := dc0 (j := 35) sL_law_216 rfl op_46
theorem sL_law_252 : sgm cL_law 252 [42, 29, 5, 96, 46, 42, 29, 6, 96, 46, 42, 29, 7, 96, 46, 42, 29, 8, 96, 46, 182, 0, 17, 87, 167, 4, 178, 43, 42, 29, 4, 96, 46, 182, 0, 18] := by decide +kernel
theorem dL_law_252 : decode cL_law 252 = .ok (.aload_n 0, 1) := dc0 (j := 0) sL_law_252 rfl op_42
theorem dL_law_253 : decode cL_law 253 = .ok (.iload_n 3, 1) := dc0 (j := 1) sL_law_252 rfl op_29
theorem dL_law_254 : decode cL_law 254 = .ok (.iconst 2, 1) := dc0 (j := 2) sL_law_252 rfl op_5
theorem dL_law_255 : decode cL_law 255 = .ok (.iadd, 1) := dc0 (j := 3) sL_law_252 rfl op_96
theorem dL_law_256 : decode cL_law 256 = .ok (.iaload, 1) := dc0 (j := 4) sL_law_252 rfl op_46
theorem dL_law_257 : decode cL_law 257 = .ok (.aload_n 0, 1) := dc0 (j := 5) sL_law_252 rfl op_42
theorem dL_law_258 : decode cL_law 258 = .ok (.iload_n 3, 1) := dc0 (j := 6) sL_law_252 rfl op_29
theorem dL_law_259 : decode cL_law 259 = .ok (.iconst 3, 1) := dc0 (j := 7) sL_law_252 rfl op_6
theorem dL_law_260 : decode cL_law 260 = .ok (.iadd, 1) := dc0 (j := 8) sL_law_252 rfl op_96
theorem dL_law_261 : decode cL_law 261 = .ok (.iaload, 1) := dc0 (j := 9) sL_law_252 rfl op_46
theorem dL_law_262 : decode cL_law 262 = .ok (.aload_n 0, 1) := dc0 (j := 10) sL_law_252 rfl op_42
theorem dL_law_263 : decode cL_law 263 = .ok (.iload_n 3, 1) := dc0 (j := 11) sL_law_252 rfl op_29
theorem dL_law_264 : decode cL_law 264 = .ok (.iconst 4, 1) := dc0 (j := 12) sL_law_252 rfl op_7
theorem dL_law_265 : decode cL_law 265 = .ok (.iadd, 1) := dc0 (j := 13) sL_law_252 rfl op_96
theorem dL_law_266 : decode cL_law 266 = .ok (.iaload, 1) := dc0 (j := 14) sL_law_252 rfl op_46
theorem dL_law_267 : decode cL_law 267 = .ok (.aload_n 0, 1) := dc0 (j := 15) sL_law_252 rfl op_42
theorem dL_law_268 : decode cL_law 268 = .ok (.iload_n 3, 1) := dc0 (j := 16) sL_law_252 rfl op_29
theorem dL_law_269 : decode cL_law 269 = .ok (.iconst 5, 1) := dc0 (j := 17) sL_law_252 rfl op_8
theorem dL_law_270 : decode cL_law 270 = .ok (.iadd, 1) := dc0 (j := 18) sL_law_252 rfl op_96
theorem dL_law_271 : decode cL_law 271 = .ok (.iaload, 1) := dc0 (j := 19) sL_law_252 rfl op_46
theorem dL_law_272 : decode cL_law 272 = .ok (.invokevirtual 17, 3) := dcB (j := 20) (f := Instr.invokevirtual) sL_law_252 rfl op_182 rfl
theorem dL_law_275 : decode cL_law 275 = .ok (.pop, 1) := dc0 (j := 23) sL_law_252 rfl op_87
theorem dL_law_276 : decode cL_law 276 = .ok (.goto 1202, 3) := dcTp (j := 24) (v := 1202) (f := Instr.goto) sL_law_252 rfl op_167 rfl rfl
theorem dL_law_279 : decode cL_law 279 = .ok (.aload_n 1, 1) := dc0 (j := 27) sL_law_252 rfl op_43
theorem dL_law_280 : decode cL_law 280 = .ok (.aload_n 0, 1) := dc0 (j := 28) sL_law_252 rfl op_42
theorem dL_law_281 : decode cL_law 281 = .ok (.iload_n 3, 1) := dc0 (j := 29) sL_law_252 rfl op_29
theorem dL_law_282 : decode cL_law 282 = .ok (.iconst 1, 1) := dc0 (j := 30) sL_law_252 rfl op_4
theorem dL_law_283 : decode cL_law 283 = .ok (.iadd, 1) := dc0 (j := 31) sL_law_252 rfl op_96
theorem dL_law_284 : decode cL_law 284 = .ok (.iaload, 1) := dc0 (j := 32) sL_law_252 rfl op_46
theorem dL_law_285 : decode cL_law 285 = .ok (.invokevirtual 18, 3) := dcB (j := 33) (f := Instr.invokevirtual) sL_law_252 rfl op_182 rfl
theorem sL_law_288 : sgm cL_law 288 [87, 44, 42, 29, 4, 96, 46, 182, 0, 22, 87, 167, 4, 155, 43, 42, 29, 4, 96, 46, 182, 0, 23, 87, 44, 42, 29, 4, 96, 46, 182, 0, 26, 87] := by decide +kernel
theorem dL_law_288 : decode cL_law 288 = .ok (.pop, 1) := dc0 (j := 0) sL_law_288 rfl op_87
theorem dL_law_289 : decode cL_law 289 = .ok (.aload_n 2, 1) := dc0 (j := 1) sL_law_288 rfl op_44
theorem dL_law_290 : decode cL_law 290 = .ok (.aload_n 0, 1) := dc0 (j := 2) sL_law_288 rfl op_42
theorem dL_law_291 : decode cL_law 291 = .ok (.iload_n 3, 1) := dc0 (j := 3) sL_law_288 rfl op_29
theorem dL_law_292 : decode cL_law 292 = .ok (.iconst 1, 1) := dc0 (j := 4) sL_law_288 rfl op_4
theorem dL_law_293 : decode cL_law 293 = .ok (.iadd, 1) := dc0 (j := 5) sL_law_288 rfl op_96
theorem dL_law_294 : decode cL_law 294 = .ok (.iaload, 1) := dc0 (j := 6) sL_law_288 rfl op_46
theorem dL_law_295 : decode cL_law 295 = .ok (.invokevirtual 22, 3) := dcB (j := 7) (f := Instr.invokevirtual) sL_law_288 rfl op_182 rfl
theorem dL_law_298 : decode cL_law 298 = .ok (.pop, 1) := dc0 (j := 10) sL_law_288 rfl op_87
theorem dL_law_299 : decode cL_law 299 = .ok (.goto 1179, 3) := dcTp (j := 11) (v := 1179) (f := Instr.goto) sL_law_288 rfl op_167 rfl rfl
theorem dL_law_302 : decode cL_law 302 = .ok (.aload_n 1, 1) := dc0 (j := 14) sL_law_288 rfl op_43
theorem dL_law_303 : decode cL_law 303 = .ok (.aload_n 0, 1) := dc0 (j := 15) sL_law_288 rfl op_42
theorem dL_law_304 : decode cL_law 304 = .ok (.iload_n 3, 1) := dc0 (j := 16) sL_law_288 rfl op_29
theorem dL_law_305 : decode cL_law 305 = .ok (.iconst 1, 1) := dc0 (j := 17) sL_law_288 rfl op_4
theorem dL_law_306 : decode cL_law 306 = .ok (.iadd, 1) := dc0 (j := 18) sL_law_288 rfl op_96
theorem dL_law_307 : decode cL_law 307 = .ok (.iaload, 1) := dc0 (j := 19) sL_law_288 rfl op_46
theorem dL_law_308 : decode cL_law 308 = .ok (.invokevirtual 23, 3) := dcB (j := 20) (f := Instr.invokevirtual) sL_law_288 rfl op_182 rfl
theorem dL_law_311 : decode cL_law 311 = .ok (.pop, 1) := dc0 (j := 23) sL_law_288 rfl op_87
theorem dL_law_312 : decode cL_law 312 = .ok (.aload_n 2, 1) := dc0 (j := 24) sL_law_288 rfl op_44
theorem dL_law_313 : decode cL_law 313 = .ok (.aload_n 0, 1) := dc0 (j := 25) sL_law_288 rfl op_42
theorem dL_law_314 : decode cL_law 314 = .ok (.iload_n 3, 1) := dc0 (j := 26) sL_law_288 rfl op_29
theorem dL_law_315 : decode cL_law 315 = .ok (.iconst 1, 1) := dc0 (j := 27) sL_law_288 rfl op_4
theorem dL_law_316 : decode cL_law 316 = .ok (.iadd, 1) := dc0 (j := 28) sL_law_288 rfl op_96
theorem dL_law_317 : decode cL_law 317 = .ok (.iaload, 1) := dc0 (j := 29) sL_law_288 rfl op_46
theorem dL_law_318 : decode cL_law 318 = .ok (.invokevirtual 26, 3) := dcB (j := 30) (f := Instr.invokevirtual) sL_law_288 rfl op_182 rfl
theorem dL_law_321 : decode cL_law 321 = .ok (.pop, 1) := dc0 (j := 33) sL_law_288 rfl op_87
theorem sL_law_322 : sgm cL_law 322 [167, 4, 132, 43, 42, 29, 4, 96, 46, 42, 29, 5, 96, 46, 182, 0, 27, 87, 44, 42, 29, 4, 96, 46, 42, 29, 5, 96, 46, 182, 0, 31, 87, 167, 4, 99] := by decide +kernel
theorem dL_law_322 : decode cL_law 322 = .ok (.goto 1156, 3) := dcTp (j := 0) (v := 1156) (f := Instr.goto) sL_law_322 rfl op_167 rfl rfl
theorem dL_law_325 : decode cL_law 325 = .ok (.aload_n 1, 1) := dc0 (j := 3) sL_law_322 rfl op_43
theorem dL_law_326 : decode cL_law 326 = .ok (.aload_n 0, 1) := dc0 (j := 4) sL_law_322 rfl op_42
theorem dL_law_327 : decode cL_law 327 = .ok (.iload_n 3, 1) := dc0 (j := 5) sL_law_322 rfl op_29
theorem dL_law_328 : decode cL_law 328 = .ok (.iconst 1, 1) := dc0 (j := 6) sL_law_322 rfl op_4
theorem dL_law_329 : decode cL_law 329 = .ok (.iadd, 1) := dc0 (j := 7) sL_law_322 rfl op_96
theorem dL_law_330 : decode cL_law 330 = .ok (.iaload, 1) := dc0 (j := 8) sL_law_322 rfl op_46
theorem dL_law_331 : decode cL_law 331 = .ok (.aload_n 0, 1) := dc0 (j := 9) sL_law_322 rfl op_42
theorem dL_law_332 : decode cL_law 332 = .ok (.iload_n 3, 1) := dc0 (j := 10) sL_law_322 rfl op_29
theorem dL_law_333 : decode cL_law 333 = .ok (.iconst 2, 1) := dc0 (j := 11) sL_law_322 rfl op_5
theorem dL_law_334 : decode cL_law 334 = .ok (.iadd, 1) := dc0 (j := 12) sL_law_322 rfl op_96
theorem dL_law_335 : decode cL_law 335 = .ok (.iaload, 1) := dc0 (j := 13) sL_law_322 rfl op_46
theorem dL_law_336 : decode cL_law 336 = .ok (.invokevirtual 27, 3) := dcB (j := 14) (f := Instr.invokevirtual) sL_law_322 rfl op_182 rfl
theorem dL_law_339 : decode cL_law 339 = .ok (.pop, 1) := dc0 (j := 17) sL_law_322 rfl op_87
theorem dL_law_340 : decode cL_law 340 = .ok (.aload_n 2, 1) := dc0 (j := 18) sL_law_322 rfl op_44
theorem dL_law_341 : decode cL_law 341 = .ok (.aload_n 0, 1) := dc0 (j := 19) sL_law_322 rfl op_42
theorem dL_law_342 : decode cL_law 342 = .ok (.iload_n 3, 1) := dc0 (j := 20) sL_law_322 rfl op_29
theorem dL_law_343 : decode cL_law 343 = .ok (.iconst 1, 1) := dc0 (j := 21) sL_law_322 rfl op_4
theorem dL_law_344 : decode cL_law 344 = .ok (.iadd, 1) := dc0 (j := 22) sL_law_322 rfl op_96
theorem dL_law_345 : decode cL_law 345 = .ok (.iaload, 1) := dc0 (j := 23) sL_law_322 rfl op_46
theorem dL_law_346 : decode cL_law 346 = .ok (.aload_n 0, 1) := dc0 (j := 24) sL_law_322 rfl op_42
theorem dL_law_347 : decode cL_law 347 = .ok (.iload_n 3, 1) := dc0 (j := 25) sL_law_322 rfl op_29
theorem dL_law_348 : decode cL_law 348 = .ok (.iconst 2, 1) := dc0 (j := 26) sL_law_322 rfl op_5
theorem dL_law_349 : decode cL_law 349 = .ok (.iadd, 1) := dc0 (j := 27) sL_law_322 rfl op_96
theorem dL_law_350 : decode cL_law 350 = .ok (.iaload, 1) := dc0 (j := 28) sL_law_322 rfl op_46
theorem dL_law_351 : decode cL_law 351 = .ok (.invokevirtual 31, 3) := dcB (j := 29) (f := Instr.invokevirtual) sL_law_322 rfl op_182 rfl
theorem dL_law_354 : decode cL_law 354 = .ok (.pop, 1) := dc0 (j := 32) sL_law_322 rfl op_87
theorem dL_law_355 : decode cL_law 355 = .ok (.goto 1123, 3) := dcTp (j := 33) (v := 1123) (f := Instr.goto) sL_law_322 rfl op_167 rfl rfl
theorem sL_law_358 : sgm cL_law 358 [43, 42, 29, 4, 96, 46, 182, 0, 32, 87, 44, 42, 29, 4, 96, 46, 182, 0, 35, 87, 167, 4, 76, 43, 42, 29, 4, 96, 46, 42, 29, 5, 96, 46] := by decide +kernel
theorem dL_law_358 : decode cL_law 358 = .ok (.aload_n 1, 1) := dc0 (j := 0) sL_law_358 rfl op_43
theorem dL_law_359 : decode cL_law 359 = .ok (.aload_n 0, 1) := dc0 (j := 1) sL_law_358 rfl op_42
theorem dL_law_360 : decode cL_law 360 = .ok (.iload_n 3, 1) := dc0 (j := 2) sL_law_358 rfl op_29
theorem dL_law_361 : decode cL_law 361 = .ok (.iconst 1, 1) := dc0 (j := 3) sL_law_358 rfl op_4
theorem dL_law_362 : decode cL_law 362 = .ok (.iadd, 1) := dc0 (j := 4) sL_law_358 rfl op_96
theorem dL_law_363 : decode cL_law 363 = .ok (.iaload, 1) := dc0 (j := 5) sL_law_358 rfl op_46
theorem dL_law_364 : decode cL_law 364 = .ok (.invokevirtual 32, 3) := dcB (j := 6) (f := Instr.invokevirtual) sL_law_358 rfl op_182 rfl
theorem dL_law_367 : decode cL_law 367 = .ok (.pop, 1) := dc0 (j := 9) sL_law_358 rfl op_87
theorem dL_law_368 : decode cL_law 368 = .ok (.aload_n 2, 1) := dc0 (j := 10) sL_law_358 rfl op_44
theorem dL_law_369 : decode cL_law 369 = .ok (.aload_n 0, 1) := dc0 (j := 11) sL_law_358 rfl op_42
theorem dL_law_370 : decode cL_law 370 = .ok (.iload_n 3, 1) := dc0 (j := 12) sL_law_358 rfl op_29
theorem dL_law_371 : decode cL_law 371 = .ok (.iconst 1, 1) := dc0 (j := 13) sL_law_358 rfl op_4
theorem dL_law_372 : decode cL_law 372 = .ok (.iadd, 1) := dc0 (j := 14) sL_law_358 rfl op_96
theorem dL_law_373 : decode cL_law 373 = .ok (.iaload, 1) := dc0 (j := 15) sL_law_358 rfl op_46
theorem dL_law_374 : decode cL_law 374 = .ok (.invokevirtual 35, 3) := dcB (j := 16) (f := Instr.invokevirtual) sL_law_358 rfl op_182 rfl
theorem dL_law_377 : decode cL_law 377 = .ok (.pop, 1) := dc0 (j := 19) sL_law_358 rfl op_87
theorem dL_law_378 : decode cL_law 378 = .ok (.goto 1100, 3) := dcTp (j := 20) (v := 1100) (f := Instr.goto) sL_law_358 rfl op_167 rfl rfl
theorem dL_law_381 : decode cL_law 381 = .ok (.aload_n 1, 1) := dc0 (j := 23) sL_law_358 rfl op_43
theorem dL_law_382 : decode cL_law 382 = .ok (.aload_n 0, 1) := dc0 (j := 24) sL_law_358 rfl op_42
theorem dL_law_383 : decode cL_law 383 = .ok (.iload_n 3, 1) := dc0 (j := 25) sL_law_358 rfl op_29
theorem dL_law_384 : decode cL_law 384 = .ok (.iconst 1, 1) := dc0 (j := 26) sL_law_358 rfl op_4
theorem dL_law_385 : decode cL_law 385 = .ok (.iadd, 1) := dc0 (j := 27) sL_law_358 rfl op_96
theorem dL_law_386 : decode cL_law 386 = .ok (.iaload, 1) := dc0 (j := 28) sL_law_358 rfl op_46
theorem dL_law_387 : decode cL_law 387 = .ok (.aload_n 0, 1) := dc0 (j := 29) sL_law_358 rfl op_42
theorem dL_law_388 : decode cL_law 388 = .ok (.iload_n 3, 1) := dc0 (j := 30) sL_law_358 rfl op_29
theorem dL_law_389 : decode cL_law 389 = .ok (.iconst 2, 1) := dc0 (j := 31) sL_law_358 rfl op_5
theorem dL_law_390 : decode cL_law 390 = .ok (.iadd, 1) := dc0 (j := 32) sL_law_358 rfl op_96
theorem dL_law_391 : decode cL_law 391 = .ok (.iaload, 1) := dc0 (j := 33) sL_law_358 rfl op_46
theorem sL_law_392 : sgm cL_law 392 [182, 0, 36, 87, 44, 42, 29, 4, 96, 46, 42, 29, 5, 96, 46, 182, 0, 39, 87, 167, 4, 43, 43, 42, 29, 4, 96, 46, 42, 29, 5, 96, 46, 182, 0, 40] := by decide +kernel
theorem dL_law_392 : decode cL_law 392 = .ok (.invokevirtual 36, 3) := dcB (j := 0) (f := Instr.invokevirtual) sL_law_392 rfl op_182 rfl
theorem dL_law_395 : decode cL_law 395 = .ok (.pop, 1) := dc0 (j := 3) sL_law_392 rfl op_87
theorem dL_law_396 : decode cL_law 396 = .ok (.aload_n 2, 1) := dc0 (j := 4) sL_law_392 rfl op_44
theorem dL_law_397 : decode cL_law 397 = .ok (.aload_n 0, 1) := dc0 (j := 5) sL_law_392 rfl op_42
theorem dL_law_398 : decode cL_law 398 = .ok (.iload_n 3, 1) := dc0 (j := 6) sL_law_392 rfl op_29
theorem dL_law_399 : decode cL_law 399 = .ok (.iconst 1, 1) := dc0 (j := 7) sL_law_392 rfl op_4
theorem dL_law_400 : decode cL_law 400 = .ok (.iadd, 1) := dc0 (j := 8) sL_law_392 rfl op_96
theorem dL_law_401 : decode cL_law 401 = .ok (.iaload, 1) := dc0 (j := 9) sL_law_392 rfl op_46
theorem dL_law_402 : decode cL_law 402 = .ok (.aload_n 0, 1) := dc0 (j := 10) sL_law_392 rfl op_42
theorem dL_law_403 : decode cL_law 403 = .ok (.iload_n 3, 1) := dc0 (j := 11) sL_law_392 rfl op_29
theorem dL_law_404 : decode cL_law 404 = .ok (.iconst 2, 1) := dc0 (j := 12) sL_law_392 rfl op_5
theorem dL_law_405 : decode cL_law 405 = .ok (.iadd, 1) := dc0 (j := 13) sL_law_392 rfl op_96
theorem dL_law_406 : decode cL_law 406 = .ok (.iaload, 1) := dc0 (j := 14) sL_law_392 rfl op_46
theorem dL_law_407 : decode cL_law 407 = .ok (.invokevirtual 39, 3) := dcB (j := 15) (f := Instr.invokevirtual) sL_law_392 rfl op_182 rfl
theorem dL_law_410 : decode cL_law 410 = .ok (.pop, 1) := dc0 (j := 18) sL_law_392 rfl op_87
theorem dL_law_411 : decode cL_law 411 = .ok (.goto 1067, 3) := dcTp (j := 19) (v := 1067) (f := Instr.goto) sL_law_392 rfl op_167 rfl rfl
theorem dL_law_414 : decode cL_law 414 = .ok (.aload_n 1, 1) := dc0 (j := 22) sL_law_392 rfl op_43
theorem dL_law_415 : decode cL_law 415 = .ok (.aload_n 0, 1) := dc0 (j := 23) sL_law_392 rfl op_42
theorem dL_law_416 : decode cL_law 416 = .ok (.iload_n 3, 1) := dc0 (j := 24) sL_law_392 rfl op_29
theorem dL_law_417 : decode cL_law 417 = .ok (.iconst 1, 1) := dc0 (j := 25) sL_law_392 rfl op_4
theorem dL_law_418 : decode cL_law 418 = .ok (.iadd, 1) := dc0 (j := 26) sL_law_392 rfl op_96
theorem dL_law_419 : decode cL_law 419 = .ok (.iaload, 1) := dc0 (j := 27) sL_law_392 rfl op_46
theorem dL_law_420 : decode cL_law 420 = .ok (.aload_n 0, 1) := dc0 (j := 28) sL_law_392 rfl op_42
theorem dL_law_421 : decode cL_law 421 = .ok (.iload_n 3, 1) := dc0 (j := 29) sL_law_392 rfl op_29
theorem dL_law_422 : decode cL_law 422 = .ok (.iconst 2, 1) := dc0 (j := 30) sL_law_392 rfl op_5
theorem dL_law_423 : decode cL_law 423 = .ok (.iadd, 1) := dc0 (j := 31) sL_law_392 rfl op_96
theorem dL_law_424 : decode cL_law 424 = .ok (.iaload, 1) := dc0 (j := 32) sL_law_392 rfl op_46
theorem dL_law_425 : decode cL_law 425 = .ok (.invokevirtual 40, 3) := dcB (j := 33) (f := Instr.invokevirtual) sL_law_392 rfl op_182 rfl
theorem sL_law_428 : sgm cL_law 428 [87, 44, 42, 29, 4, 96, 46, 42, 29, 5, 96, 46, 182, 0, 43, 87, 167, 4, 10, 43, 42, 29, 4, 96, 46, 42, 29, 5, 96, 46, 182, 0, 44, 87, 44, 42] := by decide +kernel
theorem dL_law_428 : decode cL_law 428 = .ok (.pop, 1) := dc0 (j := 0) sL_law_428 rfl op_87
theorem dL_law_429 : decode cL_law 429 = .ok (.aload_n 2, 1) := dc0 (j := 1) sL_law_428 rfl op_44
theorem dL_law_430 : decode cL_law 430 = .ok (.aload_n 0, 1) := dc0 (j := 2) sL_law_428 rfl op_42
theorem dL_law_431 : decode cL_law 431 = .ok (.iload_n 3, 1) := dc0 (j := 3) sL_law_428 rfl op_29
theorem dL_law_432 : decode cL_law 432 = .ok (.iconst 1, 1) := dc0 (j := 4) sL_law_428 rfl op_4
theorem dL_law_433 : decode cL_law 433 = .ok (.iadd, 1) := dc0 (j := 5) sL_law_428 rfl op_96
theorem dL_law_434 : decode cL_law 434 = .ok (.iaload, 1) := dc0 (j := 6) sL_law_428 rfl op_46
theorem dL_law_435 : decode cL_law 435 = .ok (.aload_n 0, 1) := dc0 (j := 7) sL_law_428 rfl op_42
theorem dL_law_436 : decode cL_law 436 = .ok (.iload_n 3, 1) := dc0 (j := 8) sL_law_428 rfl op_29
theorem dL_law_437 : decode cL_law 437 = .ok (.iconst 2, 1) := dc0 (j := 9) sL_law_428 rfl op_5
theorem dL_law_438 : decode cL_law 438 = .ok (.iadd, 1) := dc0 (j := 10) sL_law_428 rfl op_96
theorem dL_law_439 : decode cL_law 439 = .ok (.iaload, 1) := dc0 (j := 11) sL_law_428 rfl op_46
theorem dL_law_440 : decode cL_law 440 = .ok (.invokevirtual 43, 3) := dcB (j := 12) (f := Instr.invokevirtual) sL_law_428 rfl op_182 rfl
theorem dL_law_443 : decode cL_law 443 = .ok (.pop, 1) := dc0 (j := 15) sL_law_428 rfl op_87
theorem dL_law_444 : decode cL_law 444 = .ok (.goto 1034, 3) := dcTp (j := 16) (v := 1034) (f := Instr.goto) sL_law_428 rfl op_167 rfl rfl
theorem dL_law_447 : decode cL_law 447 = .ok (.aload_n 1, 1) := dc0 (j := 19) sL_law_428 rfl op_43
theorem dL_law_448 : decode cL_law 448 = .ok (.aload_n 0, 1) := dc0 (j := 20) sL_law_428 rfl op_42
theorem dL_law_449 : decode cL_law 449 = .ok (.iload_n 3, 1) := dc0 (j := 21) sL_law_428 rfl op_29
theorem dL_law_450 : decode cL_law 450 = .ok (.iconst 1, 1) := dc0 (j := 22) sL_law_428 rfl op_4
theorem dL_law_451 : decode cL_law 451 = .ok (.iadd, 1) := dc0 (j := 23) sL_law_428 rfl op_96
theorem dL_law_452 : decode cL_law 452 = .ok (.iaload, 1) := dc0 (j := 24) sL_law_428 rfl op_46
theorem dL_law_453 : decode cL_law 453 = .ok (.aload_n 0, 1) := dc0 (j := 25) sL_law_428 rfl op_42
theorem dL_law_454 : decode cL_law 454 = .ok (.iload_n 3, 1) := dc0 (j := 26) sL_law_428 rfl op_29
theorem dL_law_455 : decode cL_law 455 = .ok (.iconst 2, 1) := dc0 (j := 27) sL_law_428 rfl op_5
theorem dL_law_456 : decode cL_law 456 = .ok (.iadd, 1) := dc0 (j := 28) sL_law_428 rfl op_96
theorem dL_law_457 : decode cL_law 457 = .ok (.iaload, 1) := dc0 (j := 29) sL_law_428 rfl op_46
theorem dL_law_458 : decode cL_law 458 = .ok (.invokevirtual 44, 3) := dcB (j := 30) (f := Instr.invokevirtual) sL_law_428 rfl op_182 rfl
theorem dL_law_461 : decode cL_law 461 = .ok (.pop, 1) := dc0 (j := 33) sL_law_428 rfl op_87
theorem dL_law_462 : decode cL_law 462 = .ok (.aload_n 2, 1) := dc0 (j := 34) sL_law_428 rfl op_44
theorem dL_law_463 : decode cL_law 463 = .ok (.aload_n 0, 1) := dc0 (j := 35) sL_law_428 rfl op_42
theorem sL_law_464 : sgm cL_law 464 [29, 4, 96, 46, 42, 29, 5, 96, 46, 182, 0, 47, 87, 167, 3, 233, 43, 42, 29, 4, 96, 46, 42, 29, 5, 96, 46, 182, 0, 48, 87, 44, 42, 29, 4, 96] := by decide +kernel
theorem dL_law_464 : decode cL_law 464 = .ok (.iload_n 3, 1) := dc0 (j := 0) sL_law_464 rfl op_29
theorem dL_law_465 : decode cL_law 465 = .ok (.iconst 1, 1) := dc0 (j := 1) sL_law_464 rfl op_4
theorem dL_law_466 : decode cL_law 466 = .ok (.iadd, 1) := dc0 (j := 2) sL_law_464 rfl op_96
theorem dL_law_467 : decode cL_law 467 = .ok (.iaload, 1) := dc0 (j := 3) sL_law_464 rfl op_46
theorem dL_law_468 : decode cL_law 468 = .ok (.aload_n 0, 1) := dc0 (j := 4) sL_law_464 rfl op_42
theorem dL_law_469 : decode cL_law 469 = .ok (.iload_n 3, 1) := dc0 (j := 5) sL_law_464 rfl op_29
theorem dL_law_470 : decode cL_law 470 = .ok (.iconst 2, 1) := dc0 (j := 6) sL_law_464 rfl op_5
theorem dL_law_471 : decode cL_law 471 = .ok (.iadd, 1) := dc0 (j := 7) sL_law_464 rfl op_96
theorem dL_law_472 : decode cL_law 472 = .ok (.iaload, 1) := dc0 (j := 8) sL_law_464 rfl op_46
theorem dL_law_473 : decode cL_law 473 = .ok (.invokevirtual 47, 3) := dcB (j := 9) (f := Instr.invokevirtual) sL_law_464 rfl op_182 rfl
theorem dL_law_476 : decode cL_law 476 = .ok (.pop, 1) := dc0 (j := 12) sL_law_464 rfl op_87
theorem dL_law_477 : decode cL_law 477 = .ok (.goto 1001, 3) := dcTp (j := 13) (v := 1001) (f := Instr.goto) sL_law_464 rfl op_167 rfl rfl
theorem dL_law_480 : decode cL_law 480 = .ok (.aload_n 1, 1) := dc0 (j := 16) sL_law_464 rfl op_43
theorem dL_law_481 : decode cL_law 481 = .ok (.aload_n 0, 1) := dc0 (j := 17) sL_law_464 rfl op_42
theorem dL_law_482 : decode cL_law 482 = .ok (.iload_n 3, 1) := dc0 (j := 18) sL_law_464 rfl op_29
theorem dL_law_483 : decode cL_law 483 = .ok (.iconst 1, 1) := dc0 (j := 19) sL_law_464 rfl op_4
theorem dL_law_484 : decode cL_law 484 = .ok (.iadd, 1) := dc0 (j := 20) sL_law_464 rfl op_96
theorem dL_law_485 : decode cL_law 485 = .ok (.iaload, 1) := dc0 (j := 21) sL_law_464 rfl op_46
theorem dL_law_486 : decode cL_law 486 = .ok (.aload_n 0, 1) := dc0 (j := 22) sL_law_464 rfl op_42
theorem dL_law_487 : decode cL_law 487 = .ok (.iload_n 3, 1) := dc0 (j := 23) sL_law_464 rfl op_29
theorem dL_law_488 : decode cL_law 488 = .ok (.iconst 2, 1) := dc0 (j := 24) sL_law_464 rfl op_5
theorem dL_law_489 : decode cL_law 489 = .ok (.iadd, 1) := dc0 (j := 25) sL_law_464 rfl op_96
theorem dL_law_490 : decode cL_law 490 = .ok (.iaload, 1) := dc0 (j := 26) sL_law_464 rfl op_46
theorem dL_law_491 : decode cL_law 491 = .ok (.invokevirtual 48, 3) := dcB (j := 27) (f := Instr.invokevirtual) sL_law_464 rfl op_182 rfl
theorem dL_law_494 : decode cL_law 494 = .ok (.pop, 1) := dc0 (j := 30) sL_law_464 rfl op_87
theorem dL_law_495 : decode cL_law 495 = .ok (.aload_n 2, 1) := dc0 (j := 31) sL_law_464 rfl op_44
theorem dL_law_496 : decode cL_law 496 = .ok (.aload_n 0, 1) := dc0 (j := 32) sL_law_464 rfl op_42
theorem dL_law_497 : decode cL_law 497 = .ok (.iload_n 3, 1) := dc0 (j := 33) sL_law_464 rfl op_29
theorem dL_law_498 : decode cL_law 498 = .ok (.iconst 1, 1) := dc0 (j := 34) sL_law_464 rfl op_4
theorem dL_law_499 : decode cL_law 499 = .ok (.iadd, 1) := dc0 (j := 35) sL_law_464 rfl op_96
theorem sL_law_500 : sgm cL_law 500 [46, 42, 29, 5, 96, 46, 182, 0, 51, 87, 167, 3, 200, 43, 42, 29, 4, 96, 46, 42, 29, 5, 96, 46, 182, 0, 52, 87, 44, 42, 29, 4, 96, 46, 42, 29] := by decide +kernel
theorem dL_law_500 : decode cL_law 500 = .ok (.iaload, 1) := dc0 (j := 0) sL_law_500 rfl op_46
theorem dL_law_501 : decode cL_law 501 = .ok (.aload_n 0, 1) := dc0 (j := 1) sL_law_500 rfl op_42
theorem dL_law_502 : decode cL_law 502 = .ok (.iload_n 3, 1) := dc0 (j := 2) sL_law_500 rfl op_29
theorem dL_law_503 : decode cL_law 503 = .ok (.iconst 2, 1) := dc0 (j := 3) sL_law_500 rfl op_5
theorem dL_law_504 : decode cL_law 504 = .ok (.iadd, 1) := dc0 (j := 4) sL_law_500 rfl op_96
theorem dL_law_505 : decode cL_law 505 = .ok (.iaload, 1) := dc0 (j := 5) sL_law_500 rfl op_46
theorem dL_law_506 : decode cL_law 506 = .ok (.invokevirtual 51, 3) := dcB (j := 6) (f := Instr.invokevirtual) sL_law_500 rfl op_182 rfl
theorem dL_law_509 : decode cL_law 509 = .ok (.pop, 1) := dc0 (j := 9) sL_law_500 rfl op_87
theorem dL_law_510 : decode cL_law 510 = .ok (.goto 968, 3) := dcTp (j := 10) (v := 968) (f := Instr.goto) sL_law_500 rfl op_167 rfl rfl
theorem dL_law_513 : decode cL_law 513 = .ok (.aload_n 1, 1) := dc0 (j := 13) sL_law_500 rfl op_43
theorem dL_law_514 : decode cL_law 514 = .ok (.aload_n 0, 1) := dc0 (j := 14) sL_law_500 rfl op_42
theorem dL_law_515 : decode cL_law 515 = .ok (.iload_n 3, 1) := dc0 (j := 15) sL_law_500 rfl op_29
theorem dL_law_516 : decode cL_law 516 = .ok (.iconst 1, 1) := dc0 (j := 16) sL_law_500 rfl op_4
theorem dL_law_517 : decode cL_law 517 = .ok (.iadd, 1) := dc0 (j := 17) sL_law_500 rfl op_96
theorem dL_law_518 : decode cL_law 518 = .ok (.iaload, 1) := dc0 (j := 18) sL_law_500 rfl op_46
theorem dL_law_519 : decode cL_law 519 = .ok (.aload_n 0, 1) := dc0 (j := 19) sL_law_500 rfl op_42
theorem dL_law_520 : decode cL_law 520 = .ok (.iload_n 3, 1) := dc0 (j := 20) sL_law_500 rfl op_29
theorem dL_law_521 : decode cL_law 521 = .ok (.iconst 2, 1) := dc0 (j := 21) sL_law_500 rfl op_5
theorem dL_law_522 : decode cL_law 522 = .ok (.iadd, 1) := dc0 (j := 22) sL_law_500 rfl op_96
theorem dL_law_523 : decode cL_law 523 = .ok (.iaload, 1) := dc0 (j := 23) sL_law_500 rfl op_46
theorem dL_law_524 : decode cL_law 524 = .ok (.invokevirtual 52, 3) := dcB (j := 24) (f := Instr.invokevirtual) sL_law_500 rfl op_182 rfl
theorem dL_law_527 : decode cL_law 527 = .ok (.pop, 1) := dc0 (j := 27) sL_law_500 rfl op_87
theorem dL_law_528 : decode cL_law 528 = .ok (.aload_n 2, 1) := dc0 (j := 28) sL_law_500 rfl op_44
theorem dL_law_529 : decode cL_law 529 = .ok (.aload_n 0, 1) := dc0 (j := 29) sL_law_500 rfl op_42
theorem dL_law_530 : decode cL_law 530 = .ok (.iload_n 3, 1) := dc0 (j := 30) sL_law_500 rfl op_29
theorem dL_law_531 : decode cL_law 531 = .ok (.iconst 1, 1) := dc0 (j := 31) sL_law_500 rfl op_4
theorem dL_law_532 : decode cL_law 532 = .ok (.iadd, 1) := dc0 (j := 32) sL_law_500 rfl op_96
theorem dL_law_533 : decode cL_law 533 = .ok (.iaload, 1) := dc0 (j := 33) sL_law_500 rfl op_46
theorem dL_law_534 : decode cL_law 534 = .ok (.aload_n 0, 1) := dc0 (j := 34) sL_law_500 rfl op_42
theorem dL_law_535 : decode cL_law 535 = .ok (.iload_n 3, 1) := dc0 (j := 35) sL_law_500 rfl op_29
theorem sL_law_536 : sgm cL_law 536 [5, 96, 46, 182, 0, 55, 87, 167, 3, 167, 43, 42, 29, 4, 96, 46, 182, 0, 56, 87, 44, 42, 29, 4, 96, 46, 182, 0, 59, 87, 167, 3, 144, 43, 42, 29] := by decide +kernel
theorem dL_law_536 : decode cL_law 536 = .ok (.iconst 2, 1) := dc0 (j := 0) sL_law_536 rfl op_5
theorem dL_law_537 : decode cL_law 537 = .ok (.iadd, 1) := dc0 (j := 1) sL_law_536 rfl op_96
theorem dL_law_538 : decode cL_law 538 = .ok (.iaload, 1) := dc0 (j := 2) sL_law_536 rfl op_46
theorem dL_law_539 : decode cL_law 539 = .ok (.invokevirtual 55, 3) := dcB (j := 3) (f := Instr.invokevirtual) sL_law_536 rfl op_182 rfl
theorem dL_law_542 : decode cL_law 542 = .ok (.pop, 1) := dc0 (j := 6) sL_law_536 rfl op_87
theorem dL_law_543 : decode cL_law 543 = .ok (.goto 935, 3) := dcTp (j := 7) (v := 935) (f := Instr.goto) sL_law_536 rfl op_167 rfl rfl
theorem dL_law_546 : decode cL_law 546 = .ok (.aload_n 1, 1) := dc0 (j := 10) sL_law_536 rfl op_43
theorem dL_law_547 : decode cL_law 547 = .ok (.aload_n 0, 1) := dc0 (j := 11) sL_law_536 rfl op_42
theorem dL_law_548 : decode cL_law 548 = .ok (.iload_n 3, 1) := dc0 (j := 12) sL_law_536 rfl op_29
theorem dL_law_549 : decode cL_law 549 = .ok (.iconst 1, 1) := dc0 (j := 13) sL_law_536 rfl op_4
theorem dL_law_550 : decode cL_law 550 = .ok (.iadd, 1) := dc0 (j := 14) sL_law_536 rfl op_96
theorem dL_law_551 : decode cL_law 551 = .ok (.iaload, 1) := dc0 (j := 15) sL_law_536 rfl op_46
theorem dL_law_552 : decode cL_law 552 = .ok (.invokevirtual 56, 3) := dcB (j := 16) (f := Instr.invokevirtual) sL_law_536 rfl op_182 rfl
theorem dL_law_555 : decode cL_law 555 = .ok (.pop, 1) := dc0 (j := 19) sL_law_536 rfl op_87
theorem dL_law_556 : decode cL_law 556 = .ok (.aload_n 2, 1) := dc0 (j := 20) sL_law_536 rfl op_44
theorem dL_law_557 : decode cL_law 557 = .ok (.aload_n 0, 1) := dc0 (j := 21) sL_law_536 rfl op_42
theorem dL_law_558 : decode cL_law 558 = .ok (.iload_n 3, 1) := dc0 (j := 22) sL_law_536 rfl op_29
theorem dL_law_559 : decode cL_law 559 = .ok (.iconst 1, 1) := dc0 (j := 23) sL_law_536 rfl op_4
theorem dL_law_560 : decode cL_law 560 = .ok (.iadd, 1) := dc0 (j := 24) sL_law_536 rfl op_96
theorem dL_law_561 : decode cL_law 561 = .ok (.iaload, 1) := dc0 (j := 25) sL_law_536 rfl op_46
theorem dL_law_562 : decode cL_law 562 = .ok (.invokevirtual 59, 3) := dcB (j := 26) (f := Instr.invokevirtual) sL_law_536 rfl op_182 rfl
theorem dL_law_565 : decode cL_law 565 = .ok (.pop, 1) := dc0 (j := 29) sL_law_536 rfl op_87
theorem dL_law_566 : decode cL_law 566 = .ok (.goto 912, 3) := dcTp (j := 30) (v := 912) (f := Instr.goto) sL_law_536 rfl op_167 rfl rfl
theorem dL_law_569 : decode cL_law 569 = .ok (.aload_n 1, 1) := dc0 (j := 33) sL_law_536 rfl op_43
theorem dL_law_570 : decode cL_law 570 = .ok (.aload_n 0, 1) := dc0 (j := 34) sL_law_536 rfl op_42
theorem dL_law_571 : decode cL_law 571 = .ok (.iload_n 3, 1) := dc0 (j := 35) sL_law_536 rfl op_29
theorem sL_law_572 : sgm cL_law 572 [4, 96, 46, 182, 0, 60, 87, 44, 42, 29, 4, 96, 46, 182, 0, 63, 87, 167, 3, 121, 43, 42, 29, 4, 96, 46, 182, 0, 64, 87, 44, 42, 29, 4, 96, 46] := by decide +kernel
theorem dL_law_572 : decode cL_law 572 = .ok (.iconst 1, 1) := dc0 (j := 0) sL_law_572 rfl op_4
theorem dL_law_573 : decode cL_law 573 = .ok (.iadd, 1) := dc0 (j := 1) sL_law_572 rfl op_96
theorem dL_law_574 : decode cL_law 574 = .ok (.iaload, 1) := dc0 (j := 2) sL_law_572 rfl op_46
theorem dL_law_575 : decode cL_law 575 = .ok (.invokevirtual 60, 3) := dcB (j := 3) (f := Instr.invokevirtual) sL_law_572 rfl op_182 rfl
theorem dL_law_578 : decode cL_law 578 = .ok (.pop, 1) := dc0 (j := 6) sL_law_572 rfl op_87
theorem dL_law_579 : decode cL_law 579 = .ok (.aload_n 2, 1) := dc0 (j := 7) sL_law_572 rfl op_44
theorem dL_law_580 : decode cL_law 580 = .ok (.aload_n 0, 1) := dc0 (j := 8) sL_law_572 rfl op_42
theorem dL_law_581 : decode cL_law 581 = .ok (.iload_n 3, 1) := dc0 (j := 9) sL_law_572 rfl op_29
theorem dL_law_582 : decode cL_law 582 = .ok (.iconst 1, 1) := dc0 (j := 10) sL_law_572 rfl op_4
theorem dL_law_583 : decode cL_law 583 = .ok (.iadd, 1) := dc0 (j := 11) sL_law_572 rfl op_96
theorem dL_law_584 : decode cL_law 584 = .ok (.iaload, 1) := dc0 (j := 12) sL_law_572 rfl op_46
theorem dL_law_585 : decode cL_law 585 = .ok (.invokevirtual 63, 3) := dcB (j := 13) (f := Instr.invokevirtual) sL_law_572 rfl op_182 rfl
theorem dL_law_588 : decode cL_law 588 = .ok (.pop, 1) := dc0 (j := 16) sL_law_572 rfl op_87
theorem dL_law_589 : decode cL_law 589 = .ok (.goto 889, 3) := dcTp (j := 17) (v := 889) (f := Instr.goto) sL_law_572 rfl op_167 rfl rfl
theorem dL_law_592 : decode cL_law 592 = .ok (.aload_n 1, 1) := dc0 (j := 20) sL_law_572 rfl op_43
theorem dL_law_593 : decode cL_law 593 = .ok (.aload_n 0, 1) := dc0 (j := 21) sL_law_572 rfl op_42
theorem dL_law_594 : decode cL_law 594 = .ok (.iload_n 3, 1) := dc0 (j := 22) sL_law_572 rfl op_29
theorem dL_law_595 : decode cL_law 595 = .ok (.iconst 1, 1) := dc0 (j := 23) sL_law_572 rfl op_4
theorem dL_law_596 : decode cL_law 596 = .ok (.iadd, 1) := dc0 (j := 24) sL_law_572 rfl op_96
theorem dL_law_597 : decode cL_law 597 = .ok (.iaload, 1) := dc0 (j := 25) sL_law_572 rfl op_46
theorem dL_law_598 : decode cL_law 598 = .ok (.invokevirtual 64, 3) := dcB (j := 26) (f := Instr.invokevirtual) sL_law_572 rfl op_182 rfl
theorem dL_law_601 : decode cL_law 601 = .ok (.pop, 1) := dc0 (j := 29) sL_law_572 rfl op_87
theorem dL_law_602 : decode cL_law 602 = .ok (.aload_n 2, 1) := dc0 (j := 30) sL_law_572 rfl op_44
theorem dL_law_603 : decode cL_law 603 = .ok (.aload_n 0, 1) := dc0 (j := 31) sL_law_572 rfl op_42
theorem dL_law_604 : decode cL_law 604 = .ok (.iload_n 3, 1) := dc0 (j := 32) sL_law_572 rfl op_29
theorem dL_law_605 : decode cL_law 605 = .ok (.iconst 1, 1) := dc0 (j := 33) sL_law_572 rfl op_4
theorem dL_law_606 : decode cL_law 606 = .ok (.iadd, 1) := dc0 (j := 34) sL_law_572 rfl op_96
theorem dL_law_607 : decode cL_law 607 = .ok (.iaload, 1) := dc0 (j := 35) sL_law_572 rfl op_46
theorem sL_law_608 : sgm cL_law 608 [182, 0, 67, 87, 167, 3, 98, 43, 42, 29, 4, 96, 46, 42, 29, 5, 96, 46, 182, 0, 68, 87, 44, 42, 29, 4, 96, 46, 42, 29, 5, 96, 46, 182, 0, 71] := by decide +kernel
theorem dL_law_608 : decode cL_law 608 = .ok (.invokevirtual 67, 3) := dcB (j := 0) (f := Instr.invokevirtual) sL_law_608 rfl op_182 rfl
theorem dL_law_611 : decode cL_law 611 = .ok (.pop, 1) := dc0 (j := 3) sL_law_608 rfl op_87
theorem dL_law_612 : decode cL_law 612 = .ok (.goto 866, 3) := dcTp (j := 4) (v := 866) (f := Instr.goto) sL_law_608 rfl op_167 rfl rfl
theorem dL_law_615 : decode cL_law 615 = .ok (.aload_n 1, 1) := dc0 (j := 7) sL_law_608 rfl op_43
theorem dL_law_616 : decode cL_law 616 = .ok (.aload_n 0, 1) := dc0 (j := 8) sL_law_608 rfl op_42
theorem dL_law_617 : decode cL_law 617 = .ok (.iload_n 3, 1) := dc0 (j := 9) sL_law_608 rfl op_29
theorem dL_law_618 : decode cL_law 618 = .ok (.iconst 1, 1) := dc0 (j := 10) sL_law_608 rfl op_4
theorem dL_law_619 : decode cL_law 619 = .ok (.iadd, 1) := dc0 (j := 11) sL_law_608 rfl op_96
theorem dL_law_620 : decode cL_law 620 = .ok (.iaload, 1) := dc0 (j := 12) sL_law_608 rfl op_46
theorem dL_law_621 : decode cL_law 621 = .ok (.aload_n 0, 1) := dc0 (j := 13) sL_law_608 rfl op_42
theorem dL_law_622 : decode cL_law 622 = .ok (.iload_n 3, 1) := dc0 (j := 14) sL_law_608 rfl op_29
theorem dL_law_623 : decode cL_law 623 = .ok (.iconst 2, 1) := dc0 (j := 15) sL_law_608 rfl op_5
theorem dL_law_624 : decode cL_law 624 = .ok (.iadd, 1) := dc0 (j := 16) sL_law_608 rfl op_96
theorem dL_law_625 : decode cL_law 625 = .ok (.iaload, 1) := dc0 (j := 17) sL_law_608 rfl op_46
theorem dL_law_626 : decode cL_law 626 = .ok (.invokevirtual 68, 3) := dcB (j := 18) (f := Instr.invokevirtual) sL_law_608 rfl op_182 rfl
theorem dL_law_629 : decode cL_law 629 = .ok (.pop, 1) := dc0 (j := 21) sL_law_608 rfl op_87
theorem dL_law_630 : decode cL_law 630 = .ok (.aload_n 2, 1) := dc0 (j := 22) sL_law_608 rfl op_44
theorem dL_law_631 : decode cL_law 631 = .ok (.aload_n 0, 1) := dc0 (j := 23) sL_law_608 rfl op_42
theorem dL_law_632 : decode cL_law 632 = .ok (.iload_n 3, 1) := dc0 (j := 24) sL_law_608 rfl op_29
theorem dL_law_633 : decode cL_law 633 = .ok (.iconst 1, 1) := dc0 (j := 25) sL_law_608 rfl op_4
theorem dL_law_634 : decode cL_law 634 = .ok (.iadd, 1) := dc0 (j := 26) sL_law_608 rfl op_96
theorem dL_law_635 : decode cL_law 635 = .ok (.iaload, 1) := dc0 (j := 27) sL_law_608 rfl op_46
theorem dL_law_636 : decode cL_law 636 = .ok (.aload_n 0, 1) := dc0 (j := 28) sL_law_608 rfl op_42
theorem dL_law_637 : decode cL_law 637 = .ok (.iload_n 3, 1) := dc0 (j := 29) sL_law_608 rfl op_29
theorem dL_law_638 : decode cL_law 638 = .ok (.iconst 2, 1) := dc0 (j := 30) sL_law_608 rfl op_5
theorem dL_law_639 : decode cL_law 639 = .ok (.iadd, 1) := dc0 (j := 31) sL_law_608 rfl op_96
theorem dL_law_640 : decode cL_law 640 = .ok (.iaload, 1) := dc0 (j := 32) sL_law_608 rfl op_46
theorem dL_law_641 : decode cL_law 641 = .ok (.invokevirtual 71, 3) := dcB (j := 33) (f := Instr.invokevirtual) sL_law_608 rfl op_182 rfl
theorem sL_law_644 : sgm cL_law 644 [87, 167, 3, 65, 43, 42, 29, 4, 96, 46, 182, 0, 72, 87, 44, 42, 29, 4, 96, 46, 182, 0, 75, 87, 167, 3, 42, 43, 182, 0, 76, 87, 44, 182, 0, 80] := by decide +kernel
theorem dL_law_644 : decode cL_law 644 = .ok (.pop, 1) := dc0 (j := 0) sL_law_644 rfl op_87
theorem dL_law_645 : decode cL_law 645 = .ok (.goto 833, 3) := dcTp (j := 1) (v := 833) (f := Instr.goto) sL_law_644 rfl op_167 rfl rfl
theorem dL_law_648 : decode cL_law 648 = .ok (.aload_n 1, 1) := dc0 (j := 4) sL_law_644 rfl op_43
theorem dL_law_649 : decode cL_law 649 = .ok (.aload_n 0, 1) := dc0 (j := 5) sL_law_644 rfl op_42
theorem dL_law_650 : decode cL_law 650 = .ok (.iload_n 3, 1) := dc0 (j := 6) sL_law_644 rfl op_29
theorem dL_law_651 : decode cL_law 651 = .ok (.iconst 1, 1) := dc0 (j := 7) sL_law_644 rfl op_4
theorem dL_law_652 : decode cL_law 652 = .ok (.iadd, 1) := dc0 (j := 8) sL_law_644 rfl op_96
theorem dL_law_653 : decode cL_law 653 = .ok (.iaload, 1) := dc0 (j := 9) sL_law_644 rfl op_46
theorem dL_law_654 : decode cL_law 654 = .ok (.invokevirtual 72, 3) := dcB (j := 10) (f := Instr.invokevirtual) sL_law_644 rfl op_182 rfl
theorem dL_law_657 : decode cL_law 657 = .ok (.pop, 1) := dc0 (j := 13) sL_law_644 rfl op_87
theorem dL_law_658 : decode cL_law 658 = .ok (.aload_n 2, 1) := dc0 (j := 14) sL_law_644 rfl op_44
theorem dL_law_659 : decode cL_law 659 = .ok (.aload_n 0, 1) := dc0 (j := 15) sL_law_644 rfl op_42
theorem dL_law_660 : decode cL_law 660 = .ok (.iload_n 3, 1) := dc0 (j := 16) sL_law_644 rfl op_29
theorem dL_law_661 : decode cL_law 661 = .ok (.iconst 1, 1) := dc0 (j := 17) sL_law_644 rfl op_4
theorem dL_law_662 : decode cL_law 662 = .ok (.iadd, 1) := dc0 (j := 18) sL_law_644 rfl op_96
theorem dL_law_663 : decode cL_law 663 = .ok (.iaload, 1) := dc0 (j := 19) sL_law_644 rfl op_46
theorem dL_law_664 : decode cL_law 664 = .ok (.invokevirtual 75, 3) := dcB (j := 20) (f := Instr.invokevirtual) sL_law_644 rfl op_182 rfl
theorem dL_law_667 : decode cL_law 667 = .ok (.pop, 1) := dc0 (j := 23) sL_law_644 rfl op_87
theorem dL_law_668 : decode cL_law 668 = .ok (.goto 810, 3) := dcTp (j := 24) (v := 810) (f := Instr.goto) sL_law_644 rfl op_167 rfl rfl
theorem dL_law_671 : decode cL_law 671 = .ok (.aload_n 1, 1) := dc0 (j := 27) sL_law_644 rfl op_43
theorem dL_law_672 : decode cL_law 672 = .ok (.invokevirtual 76, 3) := dcB (j := 28) (f := Instr.invokevirtual) sL_law_644 rfl op_182 rfl
theorem dL_law_675 : decode cL_law 675 = .ok (.pop, 1) := dc0 (j := 31) sL_law_644 rfl op_87
theorem dL_law_676 : decode cL_law 676 = .ok (.aload_n 2, 1) := dc0 (j := 32) sL_law_644 rfl op_44
theorem dL_law_677 : decode cL_law 677 = .ok (.invokevirtual 80, 3) := dcB (j := 33) (f := Instr.invokevirtual) sL_law_644 rfl op_182 rfl
theorem sL_law_680 : sgm cL_law 680 [87, 167, 3, 29, 43, 42, 29, 4, 96, 46, 42, 29, 5, 96, 46, 182, 0, 81, 87, 44, 42, 29, 4, 96, 46, 42, 29, 5, 96, 46, 182, 0, 84, 87] := by decide +kernel
theorem dL_law_680 : decode cL_law 680 = .ok (.pop, 1) := dc0 (j := 0) sL_law_680 rfl op_87
theorem dL_law_681 : decode cL_law 681 = .ok (.goto 797, 3) := dcTp (j := 1) (v := 797) (f := Instr.goto) sL_law_680 rfl op_167 rfl rfl
theorem dL_law_684 : decode cL_law 684 = .ok (.aload_n 1, 1) := dc0 (j := 4) sL_law_680 rfl op_43
theorem dL_law_685 : decode cL_law 685 = .ok (.aload_n 0, 1) := dc0 (j := 5) sL_law_680 rfl op_42
theorem dL_law_686 : decode cL_law 686 = .ok (.iload_n 3, 1) := dc0 (j := 6) sL_law_680 rfl op_29
theorem dL_law_687 : decode cL_law 687 = .ok (.iconst 1, 1) := dc0 (j := 7) sL_law_680 rfl op_4
theorem dL_law_688 : decode cL_law 688 = .ok (.iadd, 1) := dc0 (j := 8) sL_law_680 rfl op_96
theorem dL_law_689 : decode cL_law 689 = .ok (.iaload, 1) := dc0 (j := 9) sL_law_680 rfl op_46
theorem dL_law_690 : decode cL_law 690 = .ok (.aload_n 0, 1) := dc0 (j := 10) sL_law_680 rfl op_42
theorem dL_law_691 : decode cL_law 691 = .ok (.iload_n 3, 1) := dc0 (j := 11) sL_law_680 rfl op_29
theorem dL_law_692 : decode cL_law 692 = .ok (.iconst 2, 1) := dc0 (j := 12) sL_law_680 rfl op_5
theorem dL_law_693 : decode cL_law 693 = .ok (.iadd, 1) := dc0 (j := 13) sL_law_680 rfl op_96
theorem dL_law_694 : decode cL_law 694 = .ok (.iaload, 1) := dc0 (j := 14) sL_law_680 rfl op_46
theorem dL_law_695 : decode cL_law 695 = .ok (.invokevirtual 81, 3) := dcB (j := 15) (f := Instr.invokevirtual) sL_law_680 rfl op_182 rfl
theorem dL_law_698 : decode cL_law 698 = .ok (.pop, 1) := dc0 (j := 18) sL_law_680 rfl op_87
theorem dL_law_699 : decode cL_law 699 = .ok (.aload_n 2, 1) := dc0 (j := 19) sL_law_680 rfl op_44
theorem dL_law_700 : decode cL_law 700 = .ok (.aload_n 0, 1) := dc0 (j := 20) sL_law_680 rfl op_42
theorem dL_law_701 : decode cL_law 701 = .ok (.iload_n 3, 1) := dc0 (j := 21) sL_law_680 rfl op_29
theorem dL_law_702 : decode cL_law 702 = .ok (.iconst 1, 1) := dc0 (j := 22) sL_law_680 rfl op_4
theorem dL_law_703 : decode cL_law 703 = .ok (.iadd, 1) := dc0 (j := 23) sL_law_680 rfl op_96
theorem dL_law_704 : decode cL_law 704 = .ok (.iaload, 1) := dc0 (j := 24) sL_law_680 rfl op_46
theorem dL_law_705 : decode cL_law 705 = .ok (.aload_n 0, 1) := dc0 (j := 25) sL_law_680 rfl op_42
theorem dL_law_706 : decode cL_law 706 = .ok (.iload_n 3, 1) := dc0 (j := 26) sL_law_680 rfl op_29
theorem dL_law_707 : decode cL_law 707 = .ok (.iconst 2, 1) := dc0 (j := 27) sL_law_680 rfl op_5
theorem dL_law_708 : decode cL_law 708 = .ok (.iadd, 1) := dc0 (j := 28) sL_law_680 rfl op_96
theorem dL_law_709 : decode cL_law 709 = .ok (.iaload, 1) := dc0 (j := 29) sL_law_680 rfl op_46
theorem dL_law_710 : decode cL_law 710 = .ok (.invokevirtual 84, 3) := dcB (j := 30) (f := Instr.invokevirtual) sL_law_680 rfl op_182 rfl
theorem dL_law_713 : decode cL_law 713 = .ok (.pop, 1) := dc0 (j := 33) sL_law_680 rfl op_87
theorem sL_law_714 : sgm cL_law 714 [167, 2, 252, 43, 182, 0, 85, 87, 44, 182, 0, 88, 87, 167, 2, 239, 43, 42, 29, 4, 96, 46, 42, 29, 5, 96, 46, 42, 29, 6, 96, 46, 182, 0, 89, 87] := by decide +kernel
theorem dL_law_714 : decode cL_law 714 = .ok (.goto 764, 3) := dcTp (j := 0) (v := 764) (f := Instr.goto) sL_law_714 rfl op_167 rfl rfl
theorem dL_law_717 : decode cL_law 717 = .ok (.aload_n 1, 1) := dc0 (j := 3) sL_law_714 rfl op_43
theorem dL_law_718 : decode cL_law 718 = .ok (.invokevirtual 85, 3) := dcB (j := 4) (f := Instr.invokevirtual) sL_law_714 rfl op_182 rfl
theorem dL_law_721 : decode cL_law 721 = .ok (.pop, 1) := dc0 (j := 7) sL_law_714 rfl op_87
theorem dL_law_722 : decode cL_law 722 = .ok (.aload_n 2, 1) := dc0 (j := 8) sL_law_714 rfl op_44
theorem dL_law_723 : decode cL_law 723 = .ok (.invokevirtual 88, 3) := dcB (j := 9) (f := Instr.invokevirtual) sL_law_714 rfl op_182 rfl
theorem dL_law_726 : decode cL_law 726 = .ok (.pop, 1) := dc0 (j := 12) sL_law_714 rfl op_87
theorem dL_law_727 : decode cL_law 727 = .ok (.goto 751, 3) := dcTp (j := 13) (v := 751) (f := Instr.goto) sL_law_714 rfl op_167 rfl rfl
theorem dL_law_730 : decode cL_law 730 = .ok (.aload_n 1, 1) := dc0 (j := 16) sL_law_714 rfl op_43
theorem dL_law_731 : decode cL_law 731 = .ok (.aload_n 0, 1) := dc0 (j := 17) sL_law_714 rfl op_42
theorem dL_law_732 : decode cL_law 732 = .ok (.iload_n 3, 1) := dc0 (j := 18) sL_law_714 rfl op_29
theorem dL_law_733 : decode cL_law 733 = .ok (.iconst 1, 1) := dc0 (j := 19) sL_law_714 rfl op_4
theorem dL_law_734 : decode cL_law 734 = .ok (.iadd, 1) := dc0 (j := 20) sL_law_714 rfl op_96
theorem dL_law_735 : decode cL_law 735 = .ok (.iaload, 1) := dc0 (j := 21) sL_law_714 rfl op_46
theorem dL_law_736 : decode cL_law 736 = .ok (.aload_n 0, 1) := dc0 (j := 22) sL_law_714 rfl op_42
theorem dL_law_737 : decode cL_law 737 = .ok (.iload_n 3, 1) := dc0 (j := 23) sL_law_714 rfl op_29
theorem dL_law_738 : decode cL_law 738 = .ok (.iconst 2, 1) := dc0 (j := 24) sL_law_714 rfl op_5
theorem dL_law_739 : decode cL_law 739 = .ok (.iadd, 1) := dc0 (j := 25) sL_law_714 rfl op_96
theorem dL_law_740 : decode cL_law 740 = .ok (.iaload, 1) := dc0 (j := 26) sL_law_714 rfl op_46
theorem dL_law_741 : decode cL_law 741 = .ok (.aload_n 0, 1) := dc0 (j := 27) sL_law_714 rfl op_42
theorem dL_law_742 : decode cL_law 742 = .ok (.iload_n 3, 1) := dc0 (j := 28) sL_law_714 rfl op_29
theorem dL_law_743 : decode cL_law 743 = .ok (.iconst 3, 1) := dc0 (j := 29) sL_law_714 rfl op_6
theorem dL_law_744 : decode cL_law 744 = .ok (.iadd, 1) := dc0 (j := 30) sL_law_714 rfl op_96
theorem dL_law_745 : decode cL_law 745 = .ok (.iaload, 1) := dc0 (j := 31) sL_law_714 rfl op_46
theorem dL_law_746 : decode cL_law 746 = .ok (.invokevirtual 89, 3) := dcB (j := 32) (f := Instr.invokevirtual) sL_law_714 rfl op_182 rfl
theorem dL_law_749 : decode cL_law 749 = .ok (.pop, 1) := dc0 (j := 35) sL_law_714 rfl op_87
theorem sL_law_750 : sgm cL_law 750 [44, 42, 29, 4, 96, 46, 42, 29, 5, 96, 46, 42, 29, 6, 96, 46, 182, 0, 93, 87, 167, 2, 196, 43, 42, 29, 4, 96, 46, 42, 29, 5, 96, 46] := by decide +kernel
theorem dL_law_750 : decode cL_law 750 = .ok (.aload_n 2, 1) := dc0 (j := 0) sL_law_750 rfl op_44
theorem dL_law_751 : decode cL_law 751 = .ok (.aload_n 0, 1) := dc0 (j := 1) sL_law_750 rfl op_42
theorem dL_law_752 : decode cL_law 752 = .ok (.iload_n 3, 1) := dc0 (j := 2) sL_law_750 rfl op_29
theorem dL_law_753 : decode cL_law 753 = .ok (.iconst 1, 1) := dc0 (j := 3) sL_law_750 rfl op_4
theorem dL_law_754 : decode cL_law 754 = .ok (.iadd, 1) := dc0 (j := 4) sL_law_750 rfl op_96
theorem dL_law_755 : decode cL_law 755 = .ok (.iaload, 1) := dc0 (j := 5) sL_law_750 rfl op_46
theorem dL_law_756 : decode cL_law 756 = .ok (.aload_n 0, 1) := dc0 (j := 6) sL_law_750 rfl op_42
theorem dL_law_757 : decode cL_law 757 = .ok (.iload_n 3, 1) := dc0 (j := 7) sL_law_750 rfl op_29
theorem dL_law_758 : decode cL_law 758 = .ok (.iconst 2, 1) := dc0 (j := 8) sL_law_750 rfl op_5
theorem dL_law_759 : decode cL_law 759 = .ok (.iadd, 1) := dc0 (j := 9) sL_law_750 rfl op_96
theorem dL_law_760 : decode cL_law 760 = .ok (.iaload, 1) := dc0 (j := 10) sL_law_750 rfl op_46
theorem dL_law_761 : decode cL_law 761 = .ok (.aload_n 0, 1) := dc0 (j := 11) sL_law_750 rfl op_42
theorem dL_law_762 : decode cL_law 762 = .ok (.iload_n 3, 1) := dc0 (j := 12) sL_law_750 rfl op_29
theorem dL_law_763 : decode cL_law 763 = .ok (.iconst 3, 1) := dc0 (j := 13) sL_law_750 rfl op_6
theorem dL_law_764 : decode cL_law 764 = .ok (.iadd, 1) := dc0 (j := 14) sL_law_750 rfl op_96
theorem dL_law_765 : decode cL_law 765 = .ok (.iaload, 1) := dc0 (j := 15) sL_law_750 rfl op_46
theorem dL_law_766 : decode cL_law 766 = .ok (.invokevirtual 93, 3) := dcB (j := 16) (f := Instr.invokevirtual) sL_law_750 rfl op_182 rfl
theorem dL_law_769 : decode cL_law 769 = .ok (.pop, 1) := dc0 (j := 19) sL_law_750 rfl op_87
theorem dL_law_770 : decode cL_law 770 = .ok (.goto 708, 3) := dcTp (j := 20) (v := 708) (f := Instr.goto) sL_law_750 rfl op_167 rfl rfl
theorem dL_law_773 : decode cL_law 773 = .ok (.aload_n 1, 1) := dc0 (j := 23) sL_law_750 rfl op_43
theorem dL_law_774 : decode cL_law 774 = .ok (.aload_n 0, 1) := dc0 (j := 24) sL_law_750 rfl op_42
theorem dL_law_775 : decode cL_law 775 = .ok (.iload_n 3, 1) := dc0 (j := 25) sL_law_750 rfl op_29
theorem dL_law_776 : decode cL_law 776 = .ok (.iconst 1, 1) := dc0 (j := 26) sL_law_750 rfl op_4
theorem dL_law_777 : decode cL_law 777 = .ok (.iadd, 1) := dc0 (j := 27) sL_law_750 rfl op_96
theorem dL_law_778 : decode cL_law 778 = .ok (.iaload, 1) := dc0 (j := 28) sL_law_750 rfl op_46
theorem dL_law_779 : decode cL_law 779 = .ok (.aload_n 0, 1) := dc0 (j := 29) sL_law_750 rfl op_42
theorem dL_law_780 : decode cL_law 780 = .ok (.iload_n 3, 1) := dc0 (j := 30) sL_law_750 rfl op_29
theorem dL_law_781 : decode cL_law 781 = .ok (.iconst 2, 1) := dc0 (j := 31) sL_law_750 rfl op_5
theorem dL_law_782 : decode cL_law 782 = .ok (.iadd, 1) := dc0 (j := 32) sL_law_750 rfl op_96
theorem dL_law_783 : decode cL_law 783 = .ok (.iaload, 1) := dc0 (j := 33) sL_law_750 rfl op_46
theorem sL_law_784 : sgm cL_law 784 [182, 0, 94, 87, 44, 42, 29, 4, 96, 46, 42, 29, 5, 96, 46, 182, 0, 97, 87, 167, 2, 163, 43, 42, 29, 4, 96, 46, 42, 29, 5, 96, 46, 182, 0, 98] := by decide +kernel
theorem dL_law_784 : decode cL_law 784 = .ok (.invokevirtual 94, 3) := dcB (j := 0) (f := Instr.invokevirtual) sL_law_784 rfl op_182 rfl
theorem dL_law_787 : decode cL_law 787 = .ok (.pop, 1) := dc0 (j := 3) sL_law_784 rfl op_87
theorem dL_law_788 : decode cL_law 788 = .ok (.aload_n 2, 1) := dc0 (j := 4) sL_law_784 rfl op_44
theorem dL_law_789 : decode cL_law 789 = .ok (.aload_n 0, 1) := dc0 (j := 5) sL_law_784 rfl op_42
theorem dL_law_790 : decode cL_law 790 = .ok (.iload_n 3, 1) := dc0 (j := 6) sL_law_784 rfl op_29
theorem dL_law_791 : decode cL_law 791 = .ok (.iconst 1, 1) := dc0 (j := 7) sL_law_784 rfl op_4
theorem dL_law_792 : decode cL_law 792 = .ok (.iadd, 1) := dc0 (j := 8) sL_law_784 rfl op_96
theorem dL_law_793 : decode cL_law 793 = .ok (.iaload, 1) := dc0 (j := 9) sL_law_784 rfl op_46
theorem dL_law_794 : decode cL_law 794 = .ok (.aload_n 0, 1) := dc0 (j := 10) sL_law_784 rfl op_42
theorem dL_law_795 : decode cL_law 795 = .ok (.iload_n 3, 1) := dc0 (j := 11) sL_law_784 rfl op_29
theorem dL_law_796 : decode cL_law 796 = .ok (.iconst 2, 1) := dc0 (j := 12) sL_law_784 rfl op_5
theorem dL_law_797 : decode cL_law 797 = .ok (.iadd, 1) := dc0 (j := 13) sL_law_784 rfl op_96
theorem dL_law_798 : decode cL_law 798 = .ok (.iaload, 1) := dc0 (j := 14) sL_law_784 rfl op_46
theorem dL_law_799 : decode cL_law 799 = .ok (.invokevirtual 97, 3) := dcB (j := 15) (f := Instr.invokevirtual) sL_law_784 rfl op_182 rfl
theorem dL_law_802 : decode cL_law 802 = .ok (.pop, 1) := dc0 (j := 18) sL_law_784 rfl op_87
theorem dL_law_803 : decode cL_law 803 = .ok (.goto 675, 3) := dcTp (j := 19) (v := 675) (f := Instr.goto) sL_law_784 rfl op_167 rfl rfl
theorem dL_law_806 : decode cL_law 806 = .ok (.aload_n 1, 1) := dc0 (j := 22) sL_law_784 rfl op_43
theorem dL_law_807 : decode cL_law 807 = .ok (.aload_n 0, 1) := dc0 (j := 23) sL_law_784 rfl op_42
theorem dL_law_808 : decode cL_law 808 = .ok (.iload_n 3, 1) := dc0 (j := 24) sL_law_784 rfl op_29
theorem dL_law_809 : decode cL_law 809 = .ok (.iconst 1, 1) := dc0 (j := 25) sL_law_784 rfl op_4
theorem dL_law_810 : decode cL_law 810 = .ok (.iadd, 1) := dc0 (j := 26) sL_law_784 rfl op_96
theorem dL_law_811 : decode cL_law 811 = .ok (.iaload, 1) := dc0 (j := 27) sL_law_784 rfl op_46
theorem dL_law_812 : decode cL_law 812 = .ok (.aload_n 0, 1) := dc0 (j := 28) sL_law_784 rfl op_42
theorem dL_law_813 : decode cL_law 813 = .ok (.iload_n 3, 1) := dc0 (j := 29) sL_law_784 rfl op_29
theorem dL_law_814 : decode cL_law 814 = .ok (.iconst 2, 1) := dc0 (j := 30) sL_law_784 rfl op_5
theorem dL_law_815 : decode cL_law 815 = .ok (.iadd, 1) := dc0 (j := 31) sL_law_784 rfl op_96
theorem dL_law_816 : decode cL_law 816 = .ok (.iaload, 1) := dc0 (j := 32) sL_law_784 rfl op_46
theorem dL_law_817 : decode cL_law 817 = .ok (.invokevirtual 98, 3) := dcB (j := 33) (f := Instr.invokevirtual) sL_law_784 rfl op_182 rfl
theorem sL_law_820 : sgm cL_law 820 [87, 44, 42, 29, 4, 96, 46, 42, 29, 5, 96, 46, 182, 0, 101, 87, 167, 2, 130, 43, 42, 29, 4, 96, 46, 182, 0, 102, 87, 44, 42, 29, 4, 96, 46] := by decide +kernel
theorem dL_law_820 : decode cL_law 820 = .ok (.pop, 1) := dc0 (j := 0) sL_law_820 rfl op_87
theorem dL_law_821 : decode cL_law 821 = .ok (.aload_n 2, 1) := dc0 (j := 1) sL_law_820 rfl op_44
theorem dL_law_822 : decode cL_law 822 = .ok (.aload_n 0, 1) := dc0 (j := 2) sL_law_820 rfl op_42
theorem dL_law_823 : decode cL_law 823 = .ok (.iload_n 3, 1) := dc0 (j := 3) sL_law_820 rfl op_29
theorem dL_law_824 : decode cL_law 824 = .ok (.iconst 1, 1) := dc0 (j := 4) sL_law_820 rfl op_4
theorem dL_law_825 : decode cL_law 825 = .ok (.iadd, 1) := dc0 (j := 5) sL_law_820 rfl op_96
theorem dL_law_826 : decode cL_law 826 = .ok (.iaload, 1) := dc0 (j := 6) sL_law_820 rfl op_46
theorem dL_law_827 : decode cL_law 827 = .ok (.aload_n 0, 1) := dc0 (j := 7) sL_law_820 rfl op_42
theorem dL_law_828 : decode cL_law 828 = .ok (.iload_n 3, 1) := dc0 (j := 8) sL_law_820 rfl op_29
theorem dL_law_829 : decode cL_law 829 = .ok (.iconst 2, 1) := dc0 (j := 9) sL_law_820 rfl op_5
theorem dL_law_830 : decode cL_law 830 = .ok (.iadd, 1) := dc0 (j := 10) sL_law_820 rfl op_96
theorem dL_law_831 : decode cL_law 831 = .ok (.iaload, 1) := dc0 (j := 11) sL_law_820 rfl op_46
theorem dL_law_832 : decode cL_law 832 = .ok (.invokevirtual 101, 3) := dcB (j := 12) (f := Instr.invokevirtual) sL_law_820 rfl op_182 rfl
theorem dL_law_835 : decode cL_law 835 = .ok (.pop, 1) := dc0 (j := 15) sL_law_820 rfl op_87
theorem dL_law_836 : decode cL_law 836 = .ok (.goto 642, 3) := dcTp (j := 16) (v := 642) (f := Instr.goto) sL_law_820 rfl op_167 rfl rfl
theorem dL_law_839 : decode cL_law 839 = .ok (.aload_n 1, 1) := dc0 (j := 19) sL_law_820 rfl op_43
theorem dL_law_840 : decode cL_law 840 = .ok (.aload_n 0, 1) := dc0 (j := 20) sL_law_820 rfl op_42
theorem dL_law_841 : decode cL_law 841 = .ok (.iload_n 3, 1) := dc0 (j := 21) sL_law_820 rfl op_29
theorem dL_law_842 : decode cL_law 842 = .ok (.iconst 1, 1) := dc0 (j := 22) sL_law_820 rfl op_4
theorem dL_law_843 : decode cL_law 843 = .ok (.iadd, 1) := dc0 (j := 23) sL_law_820 rfl op_96
theorem dL_law_844 : decode cL_law 844 = .ok (.iaload, 1) := dc0 (j := 24) sL_law_820 rfl op_46
theorem dL_law_845 : decode cL_law 845 = .ok (.invokevirtual 102, 3) := dcB (j := 25) (f := Instr.invokevirtual) sL_law_820 rfl op_182 rfl
theorem dL_law_848 : decode cL_law 848 = .ok (.pop, 1) := dc0 (j := 28) sL_law_820 rfl op_87
theorem dL_law_849 : decode cL_law 849 = .ok (.aload_n 2, 1) := dc0 (j := 29) sL_law_820 rfl op_44
theorem dL_law_850 : decode cL_law 850 = .ok (.aload_n 0, 1) := dc0 (j := 30) sL_law_820 rfl op_42
theorem dL_law_851 : decode cL_law 851 = .ok (.iload_n 3, 1) := dc0 (j := 31) sL_law_820 rfl op_29
theorem dL_law_852 : decode cL_law 852 = .ok (.iconst 1, 1) := dc0 (j := 32) sL_law_820 rfl op_4
theorem dL_law_853 : decode cL_law 853 = .ok (.iadd, 1) := dc0 (j := 33) sL_law_820 rfl op_96
theorem dL_law_854 : decode cL_law 854 = .ok (.iaload, 1) := dc0 (j := 34) sL_law_820 rfl op_46
theorem sL_law_855 : sgm cL_law 855 [182, 0, 105, 87, 167, 2, 107, 43, 42, 29, 4, 96, 46, 42, 29, 5, 96, 46, 182, 0, 106, 87, 44, 42, 29, 4, 96, 46, 42, 29, 5, 96, 46, 182, 0, 109] := by decide +kernel
theorem dL_law_855 : decode cL_law 855 = .ok (.invokevirtual 105, 3) := dcB (j := 0) (f := Instr.invokevirtual) sL_law_855 rfl op_182 rfl
theorem dL_law_858 : decode cL_law 858 = .ok (.pop, 1) := dc0 (j := 3) sL_law_855 rfl op_87
theorem dL_law_859 : decode cL_law 859 = .ok (.goto 619, 3) := dcTp (j := 4) (v := 619) (f := Instr.goto) sL_law_855 rfl op_167 rfl rfl
theorem dL_law_862 : decode cL_law 862 = .ok (.aload_n 1, 1) := dc0 (j := 7) sL_law_855 rfl op_43
theorem dL_law_863 : decode cL_law 863 = .ok (.aload_n 0, 1) := dc0 (j := 8) sL_law_855 rfl op_42
theorem dL_law_864 : decode cL_law 864 = .ok (.iload_n 3, 1) := dc0 (j := 9) sL_law_855 rfl op_29
theorem dL_law_865 : decode cL_law 865 = .ok (.iconst 1, 1) := dc0 (j := 10) sL_law_855 rfl op_4
theorem dL_law_866 : decode cL_law 866 = .ok (.iadd, 1) := dc0 (j := 11) sL_law_855 rfl op_96
theorem dL_law_867 : decode cL_law 867 = .ok (.iaload, 1) := dc0 (j := 12) sL_law_855 rfl op_46
theorem dL_law_868 : decode cL_law 868 = .ok (.aload_n 0, 1) := dc0 (j := 13) sL_law_855 rfl op_42
theorem dL_law_869 : decode cL_law 869 = .ok (.iload_n 3, 1) := dc0 (j := 14) sL_law_855 rfl op_29
theorem dL_law_870 : decode cL_law 870 = .ok (.iconst 2, 1) := dc0 (j := 15) sL_law_855 rfl op_5
theorem dL_law_871 : decode cL_law 871 = .ok (.iadd, 1) := dc0 (j := 16) sL_law_855 rfl op_96
theorem dL_law_872 : decode cL_law 872 = .ok (.iaload, 1) := dc0 (j := 17) sL_law_855 rfl op_46
theorem dL_law_873 : decode cL_law 873 = .ok (.invokevirtual 106, 3) := dcB (j := 18) (f := Instr.invokevirtual) sL_law_855 rfl op_182 rfl
theorem dL_law_876 : decode cL_law 876 = .ok (.pop, 1) := dc0 (j := 21) sL_law_855 rfl op_87
theorem dL_law_877 : decode cL_law 877 = .ok (.aload_n 2, 1) := dc0 (j := 22) sL_law_855 rfl op_44
theorem dL_law_878 : decode cL_law 878 = .ok (.aload_n 0, 1) := dc0 (j := 23) sL_law_855 rfl op_42
theorem dL_law_879 : decode cL_law 879 = .ok (.iload_n 3, 1) := dc0 (j := 24) sL_law_855 rfl op_29
theorem dL_law_880 : decode cL_law 880 = .ok (.iconst 1, 1) := dc0 (j := 25) sL_law_855 rfl op_4
theorem dL_law_881 : decode cL_law 881 = .ok (.iadd, 1) := dc0 (j := 26) sL_law_855 rfl op_96
theorem dL_law_882 : decode cL_law 882 = .ok (.iaload, 1) := dc0 (j := 27) sL_law_855 rfl op_46
theorem dL_law_883 : decode cL_law 883 = .ok (.aload_n 0, 1) := dc0 (j := 28) sL_law_855 rfl op_42
theorem dL_law_884 : decode cL_law 884 = .ok (.iload_n 3, 1) := dc0 (j := 29) sL_law_855 rfl op_29
theorem dL_law_885 : decode cL_law 885 = .ok (.iconst 2, 1) := dc0 (j := 30) sL_law_855 rfl op_5
theorem dL_law_886 : decode cL_law 886 = .ok (.iadd, 1) := dc0 (j := 31) sL_law_855 rfl op_96
theorem dL_law_887 : decode cL_law 887 = .ok (.iaload, 1) := dc0 (j := 32) sL_law_855 rfl op_46
theorem dL_law_888 : decode cL_law 888 = .ok (.invokevirtual 109, 3) := dcB (j := 33) (f := Instr.invokevirtual) sL_law_855 rfl op_182 rfl
theorem sL_law_891 : sgm cL_law 891 [87, 167, 2, 74, 43, 42, 29, 4, 96, 46, 182, 0, 110, 87, 44, 42, 29, 4, 96, 46, 182, 0, 113, 87, 167, 2, 51, 43, 42, 29, 4, 96, 46, 182, 0, 114] := by decide +kernel
theorem dL_law_891 : decode cL_law 891 = .ok (.pop, 1) := dc0 (j := 0) sL_law_891 rfl op_87
theorem dL_law_892 : decode cL_law 892 = .ok (.goto 586, 3) := dcTp (j := 1) (v := 586) (f := Instr.goto) sL_law_891 rfl op_167 rfl rfl
theorem dL_law_895 : decode cL_law 895 = .ok (.aload_n 1, 1) := dc0 (j := 4) sL_law_891 rfl op_43
theorem dL_law_896 : decode cL_law 896 = .ok (.aload_n 0, 1) := dc0 (j := 5) sL_law_891 rfl op_42
theorem dL_law_897 : decode cL_law 897 = .ok (.iload_n 3, 1) := dc0 (j := 6) sL_law_891 rfl op_29
theorem dL_law_898 : decode cL_law 898 = .ok (.iconst 1, 1) := dc0 (j := 7) sL_law_891 rfl op_4
theorem dL_law_899 : decode cL_law 899 = .ok (.iadd, 1) := dc0 (j := 8) sL_law_891 rfl op_96
theorem dL_law_900 : decode cL_law 900 = .ok (.iaload, 1) := dc0 (j := 9) sL_law_891 rfl op_46
theorem dL_law_901 : decode cL_law 901 = .ok (.invokevirtual 110, 3) := dcB (j := 10) (f := Instr.invokevirtual) sL_law_891 rfl op_182 rfl
theorem dL_law_904 : decode cL_law 904 = .ok (.pop, 1) := dc0 (j := 13) sL_law_891 rfl op_87
theorem dL_law_905 : decode cL_law 905 = .ok (.aload_n 2, 1) := dc0 (j := 14) sL_law_891 rfl op_44
theorem dL_law_906 : decode cL_law 906 = .ok (.aload_n 0, 1) := dc0 (j := 15) sL_law_891 rfl op_42
theorem dL_law_907 : decode cL_law 907 = .ok (.iload_n 3, 1) := dc0 (j := 16) sL_law_891 rfl op_29
theorem dL_law_908 : decode cL_law 908 = .ok (.iconst 1, 1) := dc0 (j := 17) sL_law_891 rfl op_4
theorem dL_law_909 : decode cL_law 909 = .ok (.iadd, 1) := dc0 (j := 18) sL_law_891 rfl op_96
theorem dL_law_910 : decode cL_law 910 = .ok (.iaload, 1) := dc0 (j := 19) sL_law_891 rfl op_46
theorem dL_law_911 : decode cL_law 911 = .ok (.invokevirtual 113, 3) := dcB (j := 20) (f := Instr.invokevirtual) sL_law_891 rfl op_182 rfl
theorem dL_law_914 : decode cL_law 914 = .ok (.pop, 1) := dc0 (j := 23) sL_law_891 rfl op_87
theorem dL_law_915 : decode cL_law 915 = .ok (.goto 563, 3) := dcTp (j := 24) (v := 563) (f := Instr.goto) sL_law_891 rfl op_167 rfl rfl
theorem dL_law_918 : decode cL_law 918 = .ok (.aload_n 1, 1) := dc0 (j := 27) sL_law_891 rfl op_43
theorem dL_law_919 : decode cL_law 919 = .ok (.aload_n 0, 1) := dc0 (j := 28) sL_law_891 rfl op_42
theorem dL_law_920 : decode cL_law 920 = .ok (.iload_n 3, 1) := dc0 (j := 29) sL_law_891 rfl op_29
theorem dL_law_921 : decode cL_law 921 = .ok (.iconst 1, 1) := dc0 (j := 30) sL_law_891 rfl op_4
theorem dL_law_922 : decode cL_law 922 = .ok (.iadd, 1) := dc0 (j := 31) sL_law_891 rfl op_96
theorem dL_law_923 : decode cL_law 923 = .ok (.iaload, 1) := dc0 (j := 32) sL_law_891 rfl op_46
theorem dL_law_924 : decode cL_law 924 = .ok (.invokevirtual 114, 3) := dcB (j := 33) (f := Instr.invokevirtual) sL_law_891 rfl op_182 rfl
theorem sL_law_927 : sgm cL_law 927 [87, 44, 42, 29, 4, 96, 46, 182, 0, 117, 87, 167, 2, 28, 43, 182, 0, 118, 87, 44, 182, 0, 121, 87, 167, 2, 15, 43, 42, 29, 4, 96, 46, 182, 0, 122] := by decide +kernel
theorem dL_law_927 : decode cL_law 927 = .ok (.pop, 1) := dc0 (j := 0) sL_law_927 rfl op_87
theorem dL_law_928 : decode cL_law 928 = .ok (.aload_n 2, 1) := dc0 (j := 1) sL_law_927 rfl op_44
theorem dL_law_929 : decode cL_law 929 = .ok (.aload_n 0, 1) := dc0 (j := 2) sL_law_927 rfl op_42
theorem dL_law_930 : decode cL_law 930 = .ok (.iload_n 3, 1) := dc0 (j := 3) sL_law_927 rfl op_29
theorem dL_law_931 : decode cL_law 931 = .ok (.iconst 1, 1) := dc0 (j := 4) sL_law_927 rfl op_4
theorem dL_law_932 : decode cL_law 932 = .ok (.iadd, 1) := dc0 (j := 5) sL_law_927 rfl op_96
theorem dL_law_933 : decode cL_law 933 = .ok (.iaload, 1) := dc0 (j := 6) sL_law_927 rfl op_46
theorem dL_law_934 : decode cL_law 934 = .ok (.invokevirtual 117, 3) := dcB (j := 7) (f := Instr.invokevirtual) sL_law_927 rfl op_182 rfl
theorem dL_law_937 : decode cL_law 937 = .ok (.pop, 1) := dc0 (j := 10) sL_law_927 rfl op_87
theorem dL_law_938 : decode cL_law 938 = .ok (.goto 540, 3) := dcTp (j := 11) (v := 540) (f := Instr.goto) sL_law_927 rfl op_167 rfl rfl
theorem dL_law_941 : decode cL_law 941 = .ok (.aload_n 1, 1) := dc0 (j := 14) sL_law_927 rfl op_43
theorem dL_law_942 : decode cL_law 942 = .ok (.invokevirtual 118, 3) := dcB (j := 15) (f := Instr.invokevirtual) sL_law_927 rfl op_182 rfl
theorem dL_law_945 : decode cL_law 945 = .ok (.pop, 1) := dc0 (j := 18) sL_law_927 rfl op_87
theorem dL_law_946 : decode cL_law 946 = .ok (.aload_n 2, 1) := dc0 (j := 19) sL_law_927 rfl op_44
theorem dL_law_947 : decode cL_law 947 = .ok (.invokevirtual 121, 3) := dcB (j := 20) (f := Instr.invokevirtual) sL_law_927 rfl op_182 rfl
theorem dL_law_950 : decode cL_law 950 = .ok (.pop, 1) := dc0 (j := 23) sL_law_927 rfl op_87
theorem dL_law_951 : decode cL_law 951 = .ok (.goto 527, 3) := dcTp (j := 24) (v := 527) (f := Instr.goto) sL_law_927 rfl op_167 rfl rfl
theorem dL_law_954 : decode cL_law 954 = .ok (.aload_n 1, 1) := dc0 (j := 27) sL_law_927 rfl op_43
theorem dL_law_955 : decode cL_law 955 = .ok (.aload_n 0, 1) := dc0 (j := 28) sL_law_927 rfl op_42
theorem dL_law_956 : decode cL_law 956 = .ok (.iload_n 3, 1) := dc0 (j := 29) sL_law_927 rfl op_29
theorem dL_law_957 : decode cL_law 957 = .ok (.iconst 1, 1) := dc0 (j := 30) sL_law_927 rfl op_4
theorem dL_law_958 : decode cL_law 958 = .ok (.iadd, 1) := dc0 (j := 31) sL_law_927 rfl op_96
theorem dL_law_959 : decode cL_law 959 = .ok (.iaload, 1) := dc0 (j := 32) sL_law_927 rfl op_46
theorem dL_law_960 : decode cL_law 960 = .ok (.invokevirtual 122, 3) := dcB (j := 33) (f := Instr.invokevirtual) sL_law_927 rfl op_182 rfl
theorem sL_law_963 : sgm cL_law 963 [87, 44, 42, 29, 4, 96, 46, 182, 0, 125, 87, 167, 1, 248, 43, 42, 29, 4, 96, 46, 42, 29, 5, 96, 46, 153, 0, 7, 4, 167, 0, 4, 3, 182, 0, 126] := by decide +kernel
theorem dL_law_963 : decode cL_law 963 = .ok (.pop, 1) := dc0 (j := 0) sL_law_963 rfl op_87
theorem dL_law_964 : decode cL_law 964 = .ok (.aload_n 2, 1) := dc0 (j := 1) sL_law_963 rfl op_44
theorem dL_law_965 : decode cL_law 965 = .ok (.aload_n 0, 1) := dc0 (j := 2) sL_law_963 rfl op_42
theorem dL_law_966 : decode cL_law 966 = .ok (.iload_n 3, 1) := dc0 (j := 3) sL_law_963 rfl op_29
theorem dL_law_967 : decode cL_law 967 = .ok (.iconst 1, 1) := dc0 (j := 4) sL_law_963 rfl op_4
theorem dL_law_968 : decode cL_law 968 = .ok (.iadd, 1) := dc0 (j := 5) sL_law_963 rfl op_96
theorem dL_law_969 : decode cL_law 969 = .ok (.iaload, 1) := dc0 (j := 6) sL_law_963 rfl op_46
theorem dL_law_970 : decode cL_law 970 = .ok (.invokevirtual 125, 3) := dcB (j := 7) (f := Instr.invokevirtual) sL_law_963 rfl op_182 rfl
theorem dL_law_973 : decode cL_law 973 = .ok (.pop, 1) := dc0 (j := 10) sL_law_963 rfl op_87
theorem dL_law_974 : decode cL_law 974 = .ok (.goto 504, 3) := dcTp (j := 11) (v := 504) (f := Instr.goto) sL_law_963 rfl op_167 rfl rfl
theorem dL_law_977 : decode cL_law 977 = .ok (.aload_n 1, 1) := dc0 (j := 14) sL_law_963 rfl op_43
theorem dL_law_978 : decode cL_law 978 = .ok (.aload_n 0, 1) := dc0 (j := 15) sL_law_963 rfl op_42
theorem dL_law_979 : decode cL_law 979 = .ok (.iload_n 3, 1) := dc0 (j := 16) sL_law_963 rfl op_29
theorem dL_law_980 : decode cL_law 980 = .ok (.iconst 1, 1) := dc0 (j := 17) sL_law_963 rfl op_4
theorem dL_law_981 : decode cL_law 981 = .ok (.iadd, 1) := dc0 (j := 18) sL_law_963 rfl op_96
theorem dL_law_982 : decode cL_law 982 = .ok (.iaload, 1) := dc0 (j := 19) sL_law_963 rfl op_46
theorem dL_law_983 : decode cL_law 983 = .ok (.aload_n 0, 1) := dc0 (j := 20) sL_law_963 rfl op_42
theorem dL_law_984 : decode cL_law 984 = .ok (.iload_n 3, 1) := dc0 (j := 21) sL_law_963 rfl op_29
theorem dL_law_985 : decode cL_law 985 = .ok (.iconst 2, 1) := dc0 (j := 22) sL_law_963 rfl op_5
theorem dL_law_986 : decode cL_law 986 = .ok (.iadd, 1) := dc0 (j := 23) sL_law_963 rfl op_96
theorem dL_law_987 : decode cL_law 987 = .ok (.iaload, 1) := dc0 (j := 24) sL_law_963 rfl op_46
theorem dL_law_988 : decode cL_law 988 = .ok (.ifCond .eq 7, 3) := dcTp (j := 25) (v := 7) (f := Instr.ifCond .eq) sL_law_963 rfl op_153 rfl rfl
theorem dL_law_991 : decode cL_law 991 = .ok (.iconst 1, 1) := dc0 (j := 28) sL_law_963 rfl op_4
theorem dL_law_992 : decode cL_law 992 = .ok (.goto 4, 3) := dcTp (j := 29) (v := 4) (f := Instr.goto) sL_law_963 rfl op_167 rfl rfl
theorem dL_law_995 : decode cL_law 995 = .ok (.iconst 0, 1) := dc0 (j := 32) sL_law_963 rfl op_3
theorem dL_law_996 : decode cL_law 996 = .ok (.invokevirtual 126, 3) := dcB (j := 33) (f := Instr.invokevirtual) sL_law_963 rfl op_182 rfl
theorem sL_law_999 : sgm cL_law 999 [87, 44, 42, 29, 4, 96, 46, 42, 29, 5, 96, 46, 153, 0, 7, 4, 167, 0, 4, 3, 182, 0, 130, 87, 167, 1, 199, 43, 42, 29, 4, 96, 46, 182, 0, 131] := by decide +kernel
theorem dL_law_999 : decode cL_law 999 = .ok (.pop, 1) := dc0 (j := 0) sL_law_999 rfl op_87
theorem dL_law_1000 : decode cL_law 1000 = .ok (.aload_n 2, 1) := dc0 (j := 1) sL_law_999 rfl op_44
theorem dL_law_1001 : decode cL_law 1001 = .ok (.aload_n 0, 1) := dc0 (j := 2) sL_law_999 rfl op_42
theorem dL_law_1002 : decode cL_law 1002 = .ok (.iload_n 3, 1) := dc0 (j := 3) sL_law_999 rfl op_29
theorem dL_law_1003 : decode cL_law 1003 = .ok (.iconst 1, 1) := dc0 (j := 4) sL_law_999 rfl op_4
theorem dL_law_1004 : decode cL_law 1004 = .ok (.iadd, 1) := dc0 (j := 5) sL_law_999 rfl op_96
theorem dL_law_1005 : decode cL_law 1005 = .ok (.iaload, 1) := dc0 (j := 6) sL_law_999 rfl op_46
theorem dL_law_1006 : decode cL_law 1006 = .ok (.aload_n 0, 1) := dc0 (j := 7) sL_law_999 rfl op_42
theorem dL_law_1007 : decode cL_law 1007 = .ok (.iload_n 3, 1) := dc0 (j := 8) sL_law_999 rfl op_29
theorem dL_law_1008 : decode cL_law 1008 = .ok (.iconst 2, 1) := dc0 (j := 9) sL_law_999 rfl op_5
theorem dL_law_1009 : decode cL_law 1009 = .ok (.iadd, 1) := dc0 (j := 10) sL_law_999 rfl op_96
theorem dL_law_1010 : decode cL_law 1010 = .ok (.iaload, 1) := dc0 (j := 11) sL_law_999 rfl op_46
theorem dL_law_1011 : decode cL_law 1011 = .ok (.ifCond .eq 7, 3) := dcTp (j := 12) (v := 7) (f := Instr.ifCond .eq) sL_law_999 rfl op_153 rfl rfl
theorem dL_law_1014 : decode cL_law 1014 = .ok (.iconst 1, 1) := dc0 (j := 15) sL_law_999 rfl op_4
theorem dL_law_1015 : decode cL_law 1015 = .ok (.goto 4, 3) := dcTp (j := 16) (v := 4) (f := Instr.goto) sL_law_999 rfl op_167 rfl rfl
theorem dL_law_1018 : decode cL_law 1018 = .ok (.iconst 0, 1) := dc0 (j := 19) sL_law_999 rfl op_3
theorem dL_law_1019 : decode cL_law 1019 = .ok (.invokevirtual 130, 3) := dcB (j := 20) (f := Instr.invokevirtual) sL_law_999 rfl op_182 rfl
theorem dL_law_1022 : decode cL_law 1022 = .ok (.pop, 1) := dc0 (j := 23) sL_law_999 rfl op_87
theorem dL_law_1023 : decode cL_law 1023 = .ok (.goto 455, 3) := dcTp (j := 24) (v := 455) (f := Instr.goto) sL_law_999 rfl op_167 rfl rfl
theorem dL_law_1026 : decode cL_law 1026 = .ok (.aload_n 1, 1) := dc0 (j := 27) sL_law_999 rfl op_43
theorem dL_law_1027 : decode cL_law 1027 = .ok (.aload_n 0, 1) := dc0 (j := 28) sL_law_999 rfl op_42
theorem dL_law_1028 : decode cL_law 1028 = .ok (.iload_n 3, 1) := dc0 (j := 29) sL_law_999 rfl op_29
theorem dL_law_1029 : decode cL_law 1029 = .ok (.iconst 1, 1) := dc0 (j := 30) sL_law_999 rfl op_4
theorem dL_law_1030 : decode cL_law 1030 = .ok (.iadd, 1) := dc0 (j := 31) sL_law_999 rfl op_96
theorem dL_law_1031 : decode cL_law 1031 = .ok (.iaload, 1) := dc0 (j := 32) sL_law_999 rfl op_46
theorem dL_law_1032 : decode cL_law 1032 = .ok (.invokevirtual 131, 3) := dcB (j := 33) (f := Instr.invokevirtual) sL_law_999 rfl op_182 rfl
theorem sL_law_1035 : sgm cL_law 1035 [87, 44, 42, 29, 4, 96, 46, 182, 0, 134, 87, 167, 1, 176, 43, 42, 29, 4, 96, 46, 42, 29, 5, 96, 46, 182, 0, 135, 87, 44, 42, 29, 4, 96, 46, 42] := by decide +kernel
theorem dL_law_1035 : decode cL_law 1035 = .ok (.pop, 1) := dc0 (j := 0) sL_law_1035 rfl op_87
theorem dL_law_1036 : decode cL_law 1036 = .ok (.aload_n 2, 1) := dc0 (j := 1) sL_law_1035 rfl op_44
theorem dL_law_1037 : decode cL_law 1037 = .ok (.aload_n 0, 1) := dc0 (j := 2) sL_law_1035 rfl op_42
theorem dL_law_1038 : decode cL_law 1038 = .ok (.iload_n 3, 1) := dc0 (j := 3) sL_law_1035 rfl op_29
theorem dL_law_1039 : decode cL_law 1039 = .ok (.iconst 1, 1) := dc0 (j := 4) sL_law_1035 rfl op_4
theorem dL_law_1040 : decode cL_law 1040 = .ok (.iadd, 1) := dc0 (j := 5) sL_law_1035 rfl op_96
theorem dL_law_1041 : decode cL_law 1041 = .ok (.iaload, 1) := dc0 (j := 6) sL_law_1035 rfl op_46
theorem dL_law_1042 : decode cL_law 1042 = .ok (.invokevirtual 134, 3) := dcB (j := 7) (f := Instr.invokevirtual) sL_law_1035 rfl op_182 rfl
theorem dL_law_1045 : decode cL_law 1045 = .ok (.pop, 1) := dc0 (j := 10) sL_law_1035 rfl op_87
theorem dL_law_1046 : decode cL_law 1046 = .ok (.goto 432, 3) := dcTp (j := 11) (v := 432) (f := Instr.goto) sL_law_1035 rfl op_167 rfl rfl
theorem dL_law_1049 : decode cL_law 1049 = .ok (.aload_n 1, 1) := dc0 (j := 14) sL_law_1035 rfl op_43
theorem dL_law_1050 : decode cL_law 1050 = .ok (.aload_n 0, 1) := dc0 (j := 15) sL_law_1035 rfl op_42
theorem dL_law_1051 : decode cL_law 1051 = .ok (.iload_n 3, 1) := dc0 (j := 16) sL_law_1035 rfl op_29
theorem dL_law_1052 : decode cL_law 1052 = .ok (.iconst 1, 1) := dc0 (j := 17) sL_law_1035 rfl op_4
theorem dL_law_1053 : decode cL_law 1053 = .ok (.iadd, 1) := dc0 (j := 18) sL_law_1035 rfl op_96
theorem dL_law_1054 : decode cL_law 1054 = .ok (.iaload, 1) := dc0 (j := 19) sL_law_1035 rfl op_46
theorem dL_law_1055 : decode cL_law 1055 = .ok (.aload_n 0, 1) := dc0 (j := 20) sL_law_1035 rfl op_42
theorem dL_law_1056 : decode cL_law 1056 = .ok (.iload_n 3, 1) := dc0 (j := 21) sL_law_1035 rfl op_29
theorem dL_law_1057 : decode cL_law 1057 = .ok (.iconst 2, 1) := dc0 (j := 22) sL_law_1035 rfl op_5
theorem dL_law_1058 : decode cL_law 1058 = .ok (.iadd, 1) := dc0 (j := 23) sL_law_1035 rfl op_96
theorem dL_law_1059 : decode cL_law 1059 = .ok (.iaload, 1) := dc0 (j := 24) sL_law_1035 rfl op_46
theorem dL_law_1060 : decode cL_law 1060 = .ok (.invokevirtual 135, 3) := dcB (j := 25) (f := Instr.invokevirtual) sL_law_1035 rfl op_182 rfl
theorem dL_law_1063 : decode cL_law 1063 = .ok (.pop, 1) := dc0 (j := 28) sL_law_1035 rfl op_87
theorem dL_law_1064 : decode cL_law 1064 = .ok (.aload_n 2, 1) := dc0 (j := 29) sL_law_1035 rfl op_44
theorem dL_law_1065 : decode cL_law 1065 = .ok (.aload_n 0, 1) := dc0 (j := 30) sL_law_1035 rfl op_42
theorem dL_law_1066 : decode cL_law 1066 = .ok (.iload_n 3, 1) := dc0 (j := 31) sL_law_1035 rfl op_29
theorem dL_law_1067 : decode cL_law 1067 = .ok (.iconst 1, 1) := dc0 (j := 32) sL_law_1035 rfl op_4
theorem dL_law_1068 : decode cL_law 1068 = .ok (.iadd, 1) := dc0 (j := 33) sL_law_1035 rfl op_96
theorem dL_law_1069 : decode cL_law 1069 = .ok (.iaload, 1) := dc0 (j := 34) sL_law_1035 rfl op_46
theorem dL_law_1070 : decode cL_law 1070 = .ok (.aload_n 0, 1) := dc0 (j := 35) sL_law_1035 rfl op_42
theorem sL_law_1071 : sgm cL_law 1071 [29, 5, 96, 46, 182, 0, 138, 87, 167, 1, 143, 43, 42, 29, 4, 96, 46, 42, 29, 5, 96, 46, 42, 29, 6, 96, 46, 182, 0, 139, 87, 44, 42, 29, 4, 96] := by decide +kernel
theorem dL_law_1071 : decode cL_law 1071 = .ok (.iload_n 3, 1) := dc0 (j := 0) sL_law_1071 rfl op_29
theorem dL_law_1072 : decode cL_law 1072 = .ok (.iconst 2, 1) := dc0 (j := 1) sL_law_1071 rfl op_5
theorem dL_law_1073 : decode cL_law 1073 = .ok (.iadd, 1) := dc0 (j := 2) sL_law_1071 rfl op_96
theorem dL_law_1074 : decode cL_law 1074 = .ok (.iaload, 1) := dc0 (j := 3) sL_law_1071 rfl op_46
theorem dL_law_1075 : decode cL_law 1075 = .ok (.invokevirtual 138, 3) := dcB (j := 4) (f := Instr.invokevirtual) sL_law_1071 rfl op_182 rfl
theorem dL_law_1078 : decode cL_law 1078 = .ok (.pop, 1) := dc0 (j := 7) sL_law_1071 rfl op_87
theorem dL_law_1079 : decode cL_law 1079 = .ok (.goto 399, 3) := dcTp (j := 8) (v := 399) (f := Instr.goto) sL_law_1071 rfl op_167 rfl rfl
theorem dL_law_1082 : decode cL_law 1082 = .ok (.aload_n 1, 1) := dc0 (j := 11) sL_law_1071 rfl op_43
theorem dL_law_1083 : decode cL_law 1083 = .ok (.aload_n 0, 1) := dc0 (j := 12) sL_law_1071 rfl op_42
theorem dL_law_1084 : decode cL_law 1084 = .ok (.iload_n 3, 1) := dc0 (j := 13) sL_law_1071 rfl op_29
theorem dL_law_1085 : decode cL_law 1085 = .ok (.iconst 1, 1) := dc0 (j := 14) sL_law_1071 rfl op_4
theorem dL_law_1086 : decode cL_law 1086 = .ok (.iadd, 1) := dc0 (j := 15) sL_law_1071 rfl op_96
theorem dL_law_1087 : decode cL_law 1087 = .ok (.iaload, 1) := dc0 (j := 16) sL_law_1071 rfl op_46
theorem dL_law_1088 : decode cL_law 1088 = .ok (.aload_n 0, 1) := dc0 (j := 17) sL_law_1071 rfl op_42
theorem dL_law_1089 : decode cL_law 1089 = .ok (.iload_n 3, 1) := dc0 (j := 18) sL_law_1071 rfl op_29
theorem dL_law_1090 : decode cL_law 1090 = .ok (.iconst 2, 1) := dc0 (j := 19) sL_law_1071 rfl op_5
theorem dL_law_1091 : decode cL_law 1091 = .ok (.iadd, 1) := dc0 (j := 20) sL_law_1071 rfl op_96
theorem dL_law_1092 : decode cL_law 1092 = .ok (.iaload, 1) := dc0 (j := 21) sL_law_1071 rfl op_46
theorem dL_law_1093 : decode cL_law 1093 = .ok (.aload_n 0, 1) := dc0 (j := 22) sL_law_1071 rfl op_42
theorem dL_law_1094 : decode cL_law 1094 = .ok (.iload_n 3, 1) := dc0 (j := 23) sL_law_1071 rfl op_29
theorem dL_law_1095 : decode cL_law 1095 = .ok (.iconst 3, 1) := dc0 (j := 24) sL_law_1071 rfl op_6
theorem dL_law_1096 : decode cL_law 1096 = .ok (.iadd, 1) := dc0 (j := 25) sL_law_1071 rfl op_96
theorem dL_law_1097 : decode cL_law 1097 = .ok (.iaload, 1) := dc0 (j := 26) sL_law_1071 rfl op_46
theorem dL_law_1098 : decode cL_law 1098 = .ok (.invokevirtual 139, 3) := dcB (j := 27) (f := Instr.invokevirtual) sL_law_1071 rfl op_182 rfl
theorem dL_law_1101 : decode cL_law 1101 = .ok (.pop, 1) := dc0 (j := 30) sL_law_1071 rfl op_87
theorem dL_law_1102 : decode cL_law 1102 = .ok (.aload_n 2, 1) := dc0 (j := 31) sL_law_1071 rfl op_44
theorem dL_law_1103 : decode cL_law 1103 = .ok (.aload_n 0, 1) := dc0 (j := 32) sL_law_1071 rfl op_42
theorem dL_law_1104 : decode cL_law 1104 = .ok (.iload_n 3, 1) := dc0 (j := 33) sL_law_1071 rfl op_29
theorem dL_law_1105 : decode cL_law 1105 = .ok (.iconst 1, 1) := dc0 (j := 34) sL_law_1071 rfl op_4
theorem dL_law_1106 : decode cL_law 1106 = .ok (.iadd, 1) := dc0 (j := 35) sL_law_1071 rfl op_96
theorem sL_law_1107 : sgm cL_law 1107 [46, 42, 29, 5, 96, 46, 42, 29, 6, 96, 46, 182, 0, 142, 87, 167, 1, 100, 43, 42, 29, 4, 96, 46, 42, 29, 5, 96, 46, 182, 0, 143, 87, 44, 42, 29] := by decide +kernel
theorem dL_law_1107 : decode cL_law 1107 = .ok (.iaload, 1) := dc0 (j := 0) sL_law_1107 rfl op_46
theorem dL_law_1108 : decode cL_law 1108 = .ok (.aload_n 0, 1) := dc0 (j := 1) sL_law_1107 rfl op_42
theorem dL_law_1109 : decode cL_law 1109 = .ok (.iload_n 3, 1) := dc0 (j := 2) sL_law_1107 rfl op_29
theorem dL_law_1110 : decode cL_law 1110 = .ok (.iconst 2, 1) := dc0 (j := 3) sL_law_1107 rfl op_5
theorem dL_law_1111 : decode cL_law 1111 = .ok (.iadd, 1) := dc0 (j := 4) sL_law_1107 rfl op_96
theorem dL_law_1112 : decode cL_law 1112 = .ok (.iaload, 1) := dc0 (j := 5) sL_law_1107 rfl op_46
theorem dL_law_1113 : decode cL_law 1113 = .ok (.aload_n 0, 1) := dc0 (j := 6) sL_law_1107 rfl op_42
theorem dL_law_1114 : decode cL_law 1114 = .ok (.iload_n 3, 1) := dc0 (j := 7) sL_law_1107 rfl op_29
theorem dL_law_1115 : decode cL_law 1115 = .ok (.iconst 3, 1) := dc0 (j := 8) sL_law_1107 rfl op_6
theorem dL_law_1116 : decode cL_law 1116 = .ok (.iadd, 1) := dc0 (j := 9) sL_law_1107 rfl op_96
theorem dL_law_1117 : decode cL_law 1117 = .ok (.iaload, 1) := dc0 (j := 10) sL_law_1107 rfl op_46
theorem dL_law_1118 : decode cL_law 1118 = .ok (.invokevirtual 142, 3) := dcB (j := 11) (f := Instr.invokevirtual) sL_law_1107 rfl op_182 rfl
theorem dL_law_1121 : decode cL_law 1121 = .ok (.pop, 1) := dc0 (j := 14) sL_law_1107 rfl op_87
theorem dL_law_1122 : decode cL_law 1122 = .ok (.goto 356, 3) := dcTp (j := 15) (v := 356) (f := Instr.goto) sL_law_1107 rfl op_167 rfl rfl
theorem dL_law_1125 : decode cL_law 1125 = .ok (.aload_n 1, 1) := dc0 (j := 18) sL_law_1107 rfl op_43
theorem dL_law_1126 : decode cL_law 1126 = .ok (.aload_n 0, 1) := dc0 (j := 19) sL_law_1107 rfl op_42
theorem dL_law_1127 : decode cL_law 1127 = .ok (.iload_n 3, 1) := dc0 (j := 20) sL_law_1107 rfl op_29
theorem dL_law_1128 : decode cL_law 1128 = .ok (.iconst 1, 1) := dc0 (j := 21) sL_law_1107 rfl op_4
theorem dL_law_1129 : decode cL_law 1129 = .ok (.iadd, 1) := dc0 (j := 22) sL_law_1107 rfl op_96
theorem dL_law_1130 : decode cL_law 1130 = .ok (.iaload, 1) := dc0 (j := 23) sL_law_1107 rfl op_46
theorem dL_law_1131 : decode cL_law 1131 = .ok (.aload_n 0, 1) := dc0 (j := 24) sL_law_1107 rfl op_42
theorem dL_law_1132 : decode cL_law 1132 = .ok (.iload_n 3, 1) := dc0 (j := 25) sL_law_1107 rfl op_29
theorem dL_law_1133 : decode cL_law 1133 = .ok (.iconst 2, 1) := dc0 (j := 26) sL_law_1107 rfl op_5
theorem dL_law_1134 : decode cL_law 1134 = .ok (.iadd, 1) := dc0 (j := 27) sL_law_1107 rfl op_96
theorem dL_law_1135 : decode cL_law 1135 = .ok (.iaload, 1) := dc0 (j := 28) sL_law_1107 rfl op_46
theorem dL_law_1136 : decode cL_law 1136 = .ok (.invokevirtual 143, 3) := dcB (j := 29) (f := Instr.invokevirtual) sL_law_1107 rfl op_182 rfl
theorem dL_law_1139 : decode cL_law 1139 = .ok (.pop, 1) := dc0 (j := 32) sL_law_1107 rfl op_87
theorem dL_law_1140 : decode cL_law 1140 = .ok (.aload_n 2, 1) := dc0 (j := 33) sL_law_1107 rfl op_44
theorem dL_law_1141 : decode cL_law 1141 = .ok (.aload_n 0, 1) := dc0 (j := 34) sL_law_1107 rfl op_42
theorem dL_law_1142 : decode cL_law 1142 = .ok (.iload_n 3, 1) := dc0 (j := 35) sL_law_1107 rfl op_29
theorem sL_law_1143 : sgm cL_law 1143 [4, 96, 46, 42, 29, 5, 96, 46, 182, 0, 146, 87, 167, 1, 67, 43, 42, 29, 4, 96, 46, 42, 29, 5, 96, 46, 182, 0, 147, 87, 44, 42, 29, 4, 96, 46] := by decide +kernel
theorem dL_law_1143 : decode cL_law 1143 = .ok (.iconst 1, 1) := dc0 (j := 0) sL_law_1143 rfl op_4
theorem dL_law_1144 : decode cL_law 1144 = .ok (.iadd, 1) := dc0 (j := 1) sL_law_1143 rfl op_96
theorem dL_law_1145 : decode cL_law 1145 = .ok (.iaload, 1) := dc0 (j := 2) sL_law_1143 rfl op_46
theorem dL_law_1146 : decode cL_law 1146 = .ok (.aload_n 0, 1) := dc0 (j := 3) sL_law_1143 rfl op_42
theorem dL_law_1147 : decode cL_law 1147 = .ok (.iload_n 3, 1) := dc0 (j := 4) sL_law_1143 rfl op_29
theorem dL_law_1148 : decode cL_law 1148 = .ok (.iconst 2, 1) := dc0 (j := 5) sL_law_1143 rfl op_5
theorem dL_law_1149 : decode cL_law 1149 = .ok (.iadd, 1) := dc0 (j := 6) sL_law_1143 rfl op_96
theorem dL_law_1150 : decode cL_law 1150 = .ok (.iaload, 1) := dc0 (j := 7) sL_law_1143 rfl op_46
theorem dL_law_1151 : decode cL_law 1151 = .ok (.invokevirtual 146, 3) := dcB (j := 8) (f := Instr.invokevirtual) sL_law_1143 rfl op_182 rfl
theorem dL_law_1154 : decode cL_law 1154 = .ok (.pop, 1) := dc0 (j := 11) sL_law_1143 rfl op_87
theorem dL_law_1155 : decode cL_law 1155 = .ok (.goto 323, 3) := dcTp (j := 12) (v := 323) (f := Instr.goto) sL_law_1143 rfl op_167 rfl rfl
theorem dL_law_1158 : decode cL_law 1158 = .ok (.aload_n 1, 1) := dc0 (j := 15) sL_law_1143 rfl op_43
theorem dL_law_1159 : decode cL_law 1159 = .ok (.aload_n 0, 1) := dc0 (j := 16) sL_law_1143 rfl op_42
theorem dL_law_1160 : decode cL_law 1160 = .ok (.iload_n 3, 1) := dc0 (j := 17) sL_law_1143 rfl op_29
theorem dL_law_1161 : decode cL_law 1161 = .ok (.iconst 1, 1) := dc0 (j := 18) sL_law_1143 rfl op_4
theorem dL_law_1162 : decode cL_law 1162 = .ok (.iadd, 1) := dc0 (j := 19) sL_law_1143 rfl op_96
theorem dL_law_1163 : decode cL_law 1163 = .ok (.iaload, 1) := dc0 (j := 20) sL_law_1143 rfl op_46
theorem dL_law_1164 : decode cL_law 1164 = .ok (.aload_n 0, 1) := dc0 (j := 21) sL_law_1143 rfl op_42
theorem dL_law_1165 : decode cL_law 1165 = .ok (.iload_n 3, 1) := dc0 (j := 22) sL_law_1143 rfl op_29
theorem dL_law_1166 : decode cL_law 1166 = .ok (.iconst 2, 1) := dc0 (j := 23) sL_law_1143 rfl op_5
theorem dL_law_1167 : decode cL_law 1167 = .ok (.iadd, 1) := dc0 (j := 24) sL_law_1143 rfl op_96
theorem dL_law_1168 : decode cL_law 1168 = .ok (.iaload, 1) := dc0 (j := 25) sL_law_1143 rfl op_46
theorem dL_law_1169 : decode cL_law 1169 = .ok (.invokevirtual 147, 3) := dcB (j := 26) (f := Instr.invokevirtual) sL_law_1143 rfl op_182 rfl
theorem dL_law_1172 : decode cL_law 1172 = .ok (.pop, 1) := dc0 (j := 29) sL_law_1143 rfl op_87
theorem dL_law_1173 : decode cL_law 1173 = .ok (.aload_n 2, 1) := dc0 (j := 30) sL_law_1143 rfl op_44
theorem dL_law_1174 : decode cL_law 1174 = .ok (.aload_n 0, 1) := dc0 (j := 31) sL_law_1143 rfl op_42
theorem dL_law_1175 : decode cL_law 1175 = .ok (.iload_n 3, 1) := dc0 (j := 32) sL_law_1143 rfl op_29
theorem dL_law_1176 : decode cL_law 1176 = .ok (.iconst 1, 1) := dc0 (j := 33) sL_law_1143 rfl op_4
theorem dL_law_1177 : decode cL_law 1177 = .ok (.iadd, 1) := dc0 (j := 34) sL_law_1143 rfl op_96
theorem dL_law_1178 : decode cL_law 1178 = .ok (.iaload, 1) := dc0 (j := 35) sL_law_1143 rfl op_46
theorem sL_law_1179 : sgm cL_law 1179 [42, 29, 5, 96, 46, 182, 0, 150, 87, 167, 1, 34, 43, 42, 29, 4, 96, 46, 182, 0, 151, 87, 44, 42, 29, 4, 96, 46, 182, 0, 154, 87, 167, 1, 11, 43] := by decide +kernel
theorem dL_law_1179 : decode cL_law 1179 = .ok (.aload_n 0, 1) := dc0 (j := 0) sL_law_1179 rfl op_42
theorem dL_law_1180 : decode cL_law 1180 = .ok (.iload_n 3, 1) := dc0 (j := 1) sL_law_1179 rfl op_29
theorem dL_law_1181 : decode cL_law 1181 = .ok (.iconst 2, 1) := dc0 (j := 2) sL_law_1179 rfl op_5
theorem dL_law_1182 : decode cL_law 1182 = .ok (.iadd, 1) := dc0 (j := 3) sL_law_1179 rfl op_96
theorem dL_law_1183 : decode cL_law 1183 = .ok (.iaload, 1) := dc0 (j := 4) sL_law_1179 rfl op_46
theorem dL_law_1184 : decode cL_law 1184 = .ok (.invokevirtual 150, 3) := dcB (j := 5) (f := Instr.invokevirtual) sL_law_1179 rfl op_182 rfl
theorem dL_law_1187 : decode cL_law 1187 = .ok (.pop, 1) := dc0 (j := 8) sL_law_1179 rfl op_87
theorem dL_law_1188 : decode cL_law 1188 = .ok (.goto 290, 3) := dcTp (j := 9) (v := 290) (f := Instr.goto) sL_law_1179 rfl op_167 rfl rfl
theorem dL_law_1191 : decode cL_law 1191 = .ok (.aload_n 1, 1) := dc0 (j := 12) sL_law_1179 rfl op_43
theorem dL_law_1192 : decode cL_law 1192 = .ok (.aload_n 0, 1) := dc0 (j := 13) sL_law_1179 rfl op_42
theorem dL_law_1193 : decode cL_law 1193 = .ok (.iload_n 3, 1) := dc0 (j := 14) sL_law_1179 rfl op_29
theorem dL_law_1194 : decode cL_law 1194 = .ok (.iconst 1, 1) := dc0 (j := 15) sL_law_1179 rfl op_4
theorem dL_law_1195 : decode cL_law 1195 = .ok (.iadd, 1) := dc0 (j := 16) sL_law_1179 rfl op_96
theorem dL_law_1196 : decode cL_law 1196 = .ok (.iaload, 1) := dc0 (j := 17) sL_law_1179 rfl op_46
theorem dL_law_1197 : decode cL_law 1197 = .ok (.invokevirtual 151, 3) := dcB (j := 18) (f := Instr.invokevirtual) sL_law_1179 rfl op_182 rfl
theorem dL_law_1200 : decode cL_law 1200 = .ok (.pop, 1) := dc0 (j := 21) sL_law_1179 rfl op_87
theorem dL_law_1201 : decode cL_law 1201 = .ok (.aload_n 2, 1) := dc0 (j := 22) sL_law_1179 rfl op_44
theorem dL_law_1202 : decode cL_law 1202 = .ok (.aload_n 0, 1) := dc0 (j := 23) sL_law_1179 rfl op_42
theorem dL_law_1203 : decode cL_law 1203 = .ok (.iload_n 3, 1) := dc0 (j := 24) sL_law_1179 rfl op_29
theorem dL_law_1204 : decode cL_law 1204 = .ok (.iconst 1, 1) := dc0 (j := 25) sL_law_1179 rfl op_4
theorem dL_law_1205 : decode cL_law 1205 = .ok (.iadd, 1) := dc0 (j := 26) sL_law_1179 rfl op_96
theorem dL_law_1206 : decode cL_law 1206 = .ok (.iaload, 1) := dc0 (j := 27) sL_law_1179 rfl op_46
theorem dL_law_1207 : decode cL_law 1207 = .ok (.invokevirtual 154, 3) := dcB (j := 28) (f := Instr.invokevirtual) sL_law_1179 rfl op_182 rfl
theorem dL_law_1210 : decode cL_law 1210 = .ok (.pop, 1) := dc0 (j := 31) sL_law_1179 rfl op_87
theorem dL_law_1211 : decode cL_law 1211 = .ok (.goto 267, 3) := dcTp (j := 32) (v := 267) (f := Instr.goto) sL_law_1179 rfl op_167 rfl rfl
theorem dL_law_1214 : decode cL_law 1214 = .ok (.aload_n 1, 1) := dc0 (j := 35) sL_law_1179 rfl op_43
theorem sL_law_1215 : sgm cL_law 1215 [42, 29, 4, 96, 46, 42, 29, 5, 96, 46, 182, 0, 155, 87, 44, 42, 29, 4, 96, 46, 42, 29, 5, 96, 46, 182, 0, 158, 87, 167, 0, 234, 43, 42, 29, 4] := by decide +kernel
theorem dL_law_1215 : decode cL_law 1215 = .ok (.aload_n 0, 1) := dc0 (j := 0) sL_law_1215 rfl op_42
theorem dL_law_1216 : decode cL_law 1216 = .ok (.iload_n 3, 1) := dc0 (j := 1) sL_law_1215 rfl op_29
theorem dL_law_1217 : decode cL_law 1217 = .ok (.iconst 1, 1) := dc0 (j := 2) sL_law_1215 rfl op_4
theorem dL_law_1218 : decode cL_law 1218 = .ok (.iadd, 1) := dc0 (j := 3) sL_law_1215 rfl op_96
theorem dL_law_1219 : decode cL_law 1219 = .ok (.iaload, 1) := dc0 (j := 4) sL_law_1215 rfl op_46
theorem dL_law_1220 : decode cL_law 1220 = .ok (.aload_n 0, 1) := dc0 (j := 5) sL_law_1215 rfl op_42
theorem dL_law_1221 : decode cL_law 1221 = .ok (.iload_n 3, 1) := dc0 (j := 6) sL_law_1215 rfl op_29
theorem dL_law_1222 : decode cL_law 1222 = .ok (.iconst 2, 1) := dc0 (j := 7) sL_law_1215 rfl op_5
theorem dL_law_1223 : decode cL_law 1223 = .ok (.iadd, 1) := dc0 (j := 8) sL_law_1215 rfl op_96
theorem dL_law_1224 : decode cL_law 1224 = .ok (.iaload, 1) := dc0 (j := 9) sL_law_1215 rfl op_46
theorem dL_law_1225 : decode cL_law 1225 = .ok (.invokevirtual 155, 3) := dcB (j := 10) (f := Instr.invokevirtual) sL_law_1215 rfl op_182 rfl
theorem dL_law_1228 : decode cL_law 1228 = .ok (.pop, 1) := dc0 (j := 13) sL_law_1215 rfl op_87
theorem dL_law_1229 : decode cL_law 1229 = .ok (.aload_n 2, 1) := dc0 (j := 14) sL_law_1215 rfl op_44
theorem dL_law_1230 : decode cL_law 1230 = .ok (.aload_n 0, 1) := dc0 (j := 15) sL_law_1215 rfl op_42
theorem dL_law_1231 : decode cL_law 1231 = .ok (.iload_n 3, 1) := dc0 (j := 16) sL_law_1215 rfl op_29
theorem dL_law_1232 : decode cL_law 1232 = .ok (.iconst 1, 1) := dc0 (j := 17) sL_law_1215 rfl op_4
theorem dL_law_1233 : decode cL_law 1233 = .ok (.iadd, 1) := dc0 (j := 18) sL_law_1215 rfl op_96
theorem dL_law_1234 : decode cL_law 1234 = .ok (.iaload, 1) := dc0 (j := 19) sL_law_1215 rfl op_46
theorem dL_law_1235 : decode cL_law 1235 = .ok (.aload_n 0, 1) := dc0 (j := 20) sL_law_1215 rfl op_42
theorem dL_law_1236 : decode cL_law 1236 = .ok (.iload_n 3, 1) := dc0 (j := 21) sL_law_1215 rfl op_29
theorem dL_law_1237 : decode cL_law 1237 = .ok (.iconst 2, 1) := dc0 (j := 22) sL_law_1215 rfl op_5
theorem dL_law_1238 : decode cL_law 1238 = .ok (.iadd, 1) := dc0 (j := 23) sL_law_1215 rfl op_96
theorem dL_law_1239 : decode cL_law 1239 = .ok (.iaload, 1) := dc0 (j := 24) sL_law_1215 rfl op_46
theorem dL_law_1240 : decode cL_law 1240 = .ok (.invokevirtual 158, 3) := dcB (j := 25) (f := Instr.invokevirtual) sL_law_1215 rfl op_182 rfl
theorem dL_law_1243 : decode cL_law 1243 = .ok (.pop, 1) := dc0 (j := 28) sL_law_1215 rfl op_87
theorem dL_law_1244 : decode cL_law 1244 = .ok (.goto 234, 3) := dcTp (j := 29) (v := 234) (f := Instr.goto) sL_law_1215 rfl op_167 rfl rfl
theorem dL_law_1247 : decode cL_law 1247 = .ok (.aload_n 1, 1) := dc0 (j := 32) sL_law_1215 rfl op_43
theorem dL_law_1248 : decode cL_law 1248 = .ok (.aload_n 0, 1) := dc0 (j := 33) sL_law_1215 rfl op_42
theorem dL_law_1249 : decode cL_law 1249 = .ok (.iload_n 3, 1) := dc0 (j := 34) sL_law_1215 rfl op_29
theorem dL_law_1250 : decode cL_law 1250 = .ok (.iconst 1, 1) := dc0 (j := 35) sL_law_1215 rfl op_4
theorem sL_law_1251 : sgm cL_law 1251 [96, 46, 182, 0, 159, 87, 44, 42, 29, 4, 96, 46, 182, 0, 162, 87, 167, 0, 211, 43, 42, 29, 4, 96, 46, 42, 29, 5, 96, 46, 42, 29, 6, 96, 46] := by decide +kernel
theorem dL_law_1251 : decode cL_law 1251 = .ok (.iadd, 1) := dc0 (j := 0) sL_law_1251 rfl op_96
theorem dL_law_1252 : decode cL_law 1252 = .ok (.iaload, 1) := dc0 (j := 1) sL_law_1251 rfl op_46
theorem dL_law_1253 : decode cL_law 1253 = .ok (.invokevirtual 159, 3) := dcB (j := 2) (f := Instr.invokevirtual) sL_law_1251 rfl op_182 rfl
theorem dL_law_1256 : decode cL_law 1256 = .ok (.pop, 1) := dc0 (j := 5) sL_law_1251 rfl op_87
theorem dL_law_1257 : decode cL_law 1257 = .ok (.aload_n 2, 1) := dc0 (j := 6) sL_law_1251 rfl op_44
theorem dL_law_1258 : decode cL_law 1258 = .ok (.aload_n 0, 1) := dc0 (j := 7) sL_law_1251 rfl op_42
theorem dL_law_1259 : decode cL_law 1259 = .ok (.iload_n 3, 1) := dc0 (j := 8) sL_law_1251 rfl op_29
theorem dL_law_1260 : decode cL_law 1260 = .ok (.iconst 1, 1) := dc0 (j := 9) sL_law_1251 rfl op_4
theorem dL_law_1261 : decode cL_law 1261 = .ok (.iadd, 1) := dc0 (j := 10) sL_law_1251 rfl op_96
theorem dL_law_1262 : decode cL_law 1262 = .ok (.iaload, 1) := dc0 (j := 11) sL_law_1251 rfl op_46
theorem dL_law_1263 : decode cL_law 1263 = .ok (.invokevirtual 162, 3) := dcB (j := 12) (f := Instr.invokevirtual) sL_law_1251 rfl op_182 rfl
theorem dL_law_1266 : decode cL_law 1266 = .ok (.pop, 1) := dc0 (j := 15) sL_law_1251 rfl op_87
theorem dL_law_1267 : decode cL_law 1267 = .ok (.goto 211, 3) := dcTp (j := 16) (v := 211) (f := Instr.goto) sL_law_1251 rfl op_167 rfl rfl
theorem dL_law_1270 : decode cL_law 1270 = .ok (.aload_n 1, 1) := dc0 (j := 19) sL_law_1251 rfl op_43
theorem dL_law_1271 : decode cL_law 1271 = .ok (.aload_n 0, 1) := dc0 (j := 20) sL_law_1251 rfl op_42
theorem dL_law_1272 : decode cL_law 1272 = .ok (.iload_n 3, 1) := dc0 (j := 21) sL_law_1251 rfl op_29
theorem dL_law_1273 : decode cL_law 1273 = .ok (.iconst 1, 1) := dc0 (j := 22) sL_law_1251 rfl op_4
theorem dL_law_1274 : decode cL_law 1274 = .ok (.iadd, 1) := dc0 (j := 23) sL_law_1251 rfl op_96
theorem dL_law_1275 : decode cL_law 1275 = .ok (.iaload, 1) := dc0 (j := 24) sL_law_1251 rfl op_46
theorem dL_law_1276 : decode cL_law 1276 = .ok (.aload_n 0, 1) := dc0 (j := 25) sL_law_1251 rfl op_42
theorem dL_law_1277 : decode cL_law 1277 = .ok (.iload_n 3, 1) := dc0 (j := 26) sL_law_1251 rfl op_29
theorem dL_law_1278 : decode cL_law 1278 = .ok (.iconst 2, 1) := dc0 (j := 27) sL_law_1251 rfl op_5
theorem dL_law_1279 : decode cL_law 1279 = .ok (.iadd, 1) := dc0 (j := 28) sL_law_1251 rfl op_96
theorem dL_law_1280 : decode cL_law 1280 = .ok (.iaload, 1) := dc0 (j := 29) sL_law_1251 rfl op_46
theorem dL_law_1281 : decode cL_law 1281 = .ok (.aload_n 0, 1) := dc0 (j := 30) sL_law_1251 rfl op_42
theorem dL_law_1282 : decode cL_law 1282 = .ok (.iload_n 3, 1) := dc0 (j := 31) sL_law_1251 rfl op_29
theorem dL_law_1283 : decode cL_law 1283 = .ok (.iconst 3, 1) := dc0 (j := 32) sL_law_1251 rfl op_6
theorem dL_law_1284 : decode cL_law 1284 = .ok (.iadd, 1) := dc0 (j := 33) sL_law_1251 rfl op_96
theorem dL_law_1285 : decode cL_law 1285 = .ok (.iaload, 1) := dc0 (j := 34) sL_law_1251 rfl op_46
theorem sL_law_1286 : sgm cL_law 1286 [182, 0, 163, 87, 44, 42, 29, 4, 96, 46, 42, 29, 5, 96, 46, 42, 29, 6, 96, 46, 182, 0, 166, 87, 167, 0, 168, 43, 42, 29, 4, 96, 46, 42, 29, 5] := by decide +kernel
theorem dL_law_1286 : decode cL_law 1286 = .ok (.invokevirtual 163, 3) := dcB (j := 0) (f := Instr.invokevirtual) sL_law_1286 rfl op_182 rfl
theorem dL_law_1289 : decode cL_law 1289 = .ok (.pop, 1) := dc0 (j := 3) sL_law_1286 rfl op_87
theorem dL_law_1290 : decode cL_law 1290 = .ok (.aload_n 2, 1) := dc0 (j := 4) sL_law_1286 rfl op_44
theorem dL_law_1291 : decode cL_law 1291 = .ok (.aload_n 0, 1) := dc0 (j := 5) sL_law_1286 rfl op_42
theorem dL_law_1292 : decode cL_law 1292 = .ok (.iload_n 3, 1) := dc0 (j := 6) sL_law_1286 rfl op_29
theorem dL_law_1293 : decode cL_law 1293 = .ok (.iconst 1, 1) := dc0 (j := 7) sL_law_1286 rfl op_4
theorem dL_law_1294 : decode cL_law 1294 = .ok (.iadd, 1) := dc0 (j := 8) sL_law_1286 rfl op_96
theorem dL_law_1295 : decode cL_law 1295 = .ok (.iaload, 1) := dc0 (j := 9) sL_law_1286 rfl op_46
theorem dL_law_1296 : decode cL_law 1296 = .ok (.aload_n 0, 1) := dc0 (j := 10) sL_law_1286 rfl op_42
theorem dL_law_1297 : decode cL_law 1297 = .ok (.iload_n 3, 1) := dc0 (j := 11) sL_law_1286 rfl op_29
theorem dL_law_1298 : decode cL_law 1298 = .ok (.iconst 2, 1) := dc0 (j := 12) sL_law_1286 rfl op_5
theorem dL_law_1299 : decode cL_law 1299 = .ok (.iadd, 1) := dc0 (j := 13) sL_law_1286 rfl op_96
theorem dL_law_1300 : decode cL_law 1300 = .ok (.iaload, 1) := dc0 (j := 14) sL_law_1286 rfl op_46
theorem dL_law_1301 : decode cL_law 1301 = .ok (.aload_n 0, 1) := dc0 (j := 15) sL_law_1286 rfl op_42
theorem dL_law_1302 : decode cL_law 1302 = .ok (.iload_n 3, 1) := dc0 (j := 16) sL_law_1286 rfl op_29
theorem dL_law_1303 : decode cL_law 1303 = .ok (.iconst 3, 1) := dc0 (j := 17) sL_law_1286 rfl op_6
theorem dL_law_1304 : decode cL_law 1304 = .ok (.iadd, 1) := dc0 (j := 18) sL_law_1286 rfl op_96
theorem dL_law_1305 : decode cL_law 1305 = .ok (.iaload, 1) := dc0 (j := 19) sL_law_1286 rfl op_46
theorem dL_law_1306 : decode cL_law 1306 = .ok (.invokevirtual 166, 3) := dcB (j := 20) (f := Instr.invokevirtual) sL_law_1286 rfl op_182 rfl
theorem dL_law_1309 : decode cL_law 1309 = .ok (.pop, 1) := dc0 (j := 23) sL_law_1286 rfl op_87
theorem dL_law_1310 : decode cL_law 1310 = .ok (.goto 168, 3) := dcTp (j := 24) (v := 168) (f := Instr.goto) sL_law_1286 rfl op_167 rfl rfl
theorem dL_law_1313 : decode cL_law 1313 = .ok (.aload_n 1, 1) := dc0 (j := 27) sL_law_1286 rfl op_43
theorem dL_law_1314 : decode cL_law 1314 = .ok (.aload_n 0, 1) := dc0 (j := 28) sL_law_1286 rfl op_42
theorem dL_law_1315 : decode cL_law 1315 = .ok (.iload_n 3, 1) := dc0 (j := 29) sL_law_1286 rfl op_29
theorem dL_law_1316 : decode cL_law 1316 = .ok (.iconst 1, 1) := dc0 (j := 30) sL_law_1286 rfl op_4
theorem dL_law_1317 : decode cL_law 1317 = .ok (.iadd, 1) := dc0 (j := 31) sL_law_1286 rfl op_96
theorem dL_law_1318 : decode cL_law 1318 = .ok (.iaload, 1) := dc0 (j := 32) sL_law_1286 rfl op_46
theorem dL_law_1319 : decode cL_law 1319 = .ok (.aload_n 0, 1) := dc0 (j := 33) sL_law_1286 rfl op_42
theorem dL_law_1320 : decode cL_law 1320 = .ok (.iload_n 3, 1) := dc0 (j := 34) sL_law_1286 rfl op_29
theorem dL_law_1321 : decode cL_law 1321 = .ok (.iconst 2, 1) := dc0 (j := 35) sL_law_1286 rfl op_5
theorem sL_law_1322 : sgm cL_law 1322 [96, 46, 42, 29, 6, 96, 46, 133, 16, 32, 121, 42, 29, 7, 96, 46, 133, 20, 0, 167, 127, 129, 182, 0, 169, 88, 44, 42, 29, 4, 96, 46, 42, 29, 5, 96] := by decide +kernel
theorem dL_law_1322 : decode cL_law 1322 = .ok (.iadd, 1) := dc0 (j := 0) sL_law_1322 rfl op_96
theorem dL_law_1323 : decode cL_law 1323 = .ok (.iaload, 1) := dc0 (j := 1) sL_law_1322 rfl op_46
theorem dL_law_1324 : decode cL_law 1324 = .ok (.aload_n 0, 1) := dc0 (j := 2) sL_law_1322 rfl op_42
theorem dL_law_1325 : decode cL_law 1325 = .ok (.iload_n 3, 1) := dc0 (j := 3) sL_law_1322 rfl op_29
theorem dL_law_1326 : decode cL_law 1326 = .ok (.iconst 3, 1) := dc0 (j := 4) sL_law_1322 rfl op_6
theorem dL_law_1327 : decode cL_law 1327 = .ok (.iadd, 1) := dc0 (j := 5) sL_law_1322 rfl op_96
theorem dL_law_1328 : decode cL_law 1328 = .ok (.iaload, 1) := dc0 (j := 6) sL_law_1322 rfl op_46
theorem dL_law_1329 : decode cL_law 1329 = .ok (.i2l, 1) := dc0 (j := 7) sL_law_1322 rfl op_133
theorem dL_law_1330 : decode cL_law 1330 = .ok (.bipush 32, 2) := dcSp (j := 8) (a := 32) (f := Instr.bipush) sL_law_1322 rfl op_16 rfl
theorem dL_law_1332 : decode cL_law 1332 = .ok (.lshl, 1) := dc0 (j := 10) sL_law_1322 rfl op_121
theorem dL_law_1333 : decode cL_law 1333 = .ok (.aload_n 0, 1) := dc0 (j := 11) sL_law_1322 rfl op_42
theorem dL_law_1334 : decode cL_law 1334 = .ok (.iload_n 3, 1) := dc0 (j := 12) sL_law_1322 rfl op_29
theorem dL_law_1335 : decode cL_law 1335 = .ok (.iconst 4, 1) := dc0 (j := 13) sL_law_1322 rfl op_7
theorem dL_law_1336 : decode cL_law 1336 = .ok (.iadd, 1) := dc0 (j := 14) sL_law_1322 rfl op_96
theorem dL_law_1337 : decode cL_law 1337 = .ok (.iaload, 1) := dc0 (j := 15) sL_law_1322 rfl op_46
theorem dL_law_1338 : decode cL_law 1338 = .ok (.i2l, 1) := dc0 (j := 16) sL_law_1322 rfl op_133
theorem dL_law_1339 : decode cL_law 1339 = .ok (.ldc2_w 167, 3) := dcB (j := 17) (f := Instr.ldc2_w) sL_law_1322 rfl op_20 rfl
theorem dL_law_1342 : decode cL_law 1342 = .ok (.land, 1) := dc0 (j := 20) sL_law_1322 rfl op_127
theorem dL_law_1343 : decode cL_law 1343 = .ok (.lor, 1) := dc0 (j := 21) sL_law_1322 rfl op_129
theorem dL_law_1344 : decode cL_law 1344 = .ok (.invokevirtual 169, 3) := dcB (j := 22) (f := Instr.invokevirtual) sL_law_1322 rfl op_182 rfl
theorem dL_law_1347 : decode cL_law 1347 = .ok (.pop2, 1) := dc0 (j := 25) sL_law_1322 rfl op_88
theorem dL_law_1348 : decode cL_law 1348 = .ok (.aload_n 2, 1) := dc0 (j := 26) sL_law_1322 rfl op_44
theorem dL_law_1349 : decode cL_law 1349 = .ok (.aload_n 0, 1) := dc0 (j := 27) sL_law_1322 rfl op_42
theorem dL_law_1350 : decode cL_law 1350 = .ok (.iload_n 3, 1) := dc0 (j := 28) sL_law_1322 rfl op_29
theorem dL_law_1351 : decode cL_law 1351 = .ok (.iconst 1, 1) := dc0 (j := 29) sL_law_1322 rfl op_4
theorem dL_law_1352 : decode cL_law 1352 = .ok (.iadd, 1) := dc0 (j := 30) sL_law_1322 rfl op_96
theorem dL_law_1353 : decode cL_law 1353 = .ok (.iaload, 1) := dc0 (j := 31) sL_law_1322 rfl op_46
theorem dL_law_1354 : decode cL_law 1354 = .ok (.aload_n 0, 1) := dc0 (j := 32) sL_law_1322 rfl op_42
theorem dL_law_1355 : decode cL_law 1355 = .ok (.iload_n 3, 1) := dc0 (j := 33) sL_law_1322 rfl op_29
theorem dL_law_1356 : decode cL_law 1356 = .ok (.iconst 2, 1) := dc0 (j := 34) sL_law_1322 rfl op_5
theorem dL_law_1357 : decode cL_law 1357 = .ok (.iadd, 1) := dc0 (j := 35) sL_law_1322 rfl op_96
theorem sL_law_1358 : sgm cL_law 1358 [46, 42, 29, 6, 96, 46, 133, 16, 32, 121, 42, 29, 7, 96, 46, 133, 20, 0, 167, 127, 129, 182, 0, 173, 88, 167, 0, 95, 43, 42, 29, 4, 96, 46] := by decide +kernel
theorem dL_law_1358 : decode cL_law 1358 = .ok (.iaload, 1) := dc0 (j := 0) sL_law_1358 rfl op_46
theorem dL_law_1359 : decode cL_law 1359 = .ok (.aload_n 0, 1) := dc0 (j := 1) sL_law_1358 rfl op_42
theorem dL_law_1360 : decode cL_law 1360 = .ok (.iload_n 3, 1) := dc0 (j := 2) sL_law_1358 rfl op_29
theorem dL_law_1361 : decode cL_law 1361 = .ok (.iconst 3, 1) := dc0 (j := 3) sL_law_1358 rfl op_6
theorem dL_law_1362 : decode cL_law 1362 = .ok (.iadd, 1) := dc0 (j := 4) sL_law_1358 rfl op_96
theorem dL_law_1363 : decode cL_law 1363 = .ok (.iaload, 1) := dc0 (j := 5) sL_law_1358 rfl op_46
theorem dL_law_1364 : decode cL_law 1364 = .ok (.i2l, 1) := dc0 (j := 6) sL_law_1358 rfl op_133
theorem dL_law_1365 : decode cL_law 1365 = .ok (.bipush 32, 2) := dcSp (j := 7) (a := 32) (f := Instr.bipush) sL_law_1358 rfl op_16 rfl
theorem dL_law_1367 : decode cL_law 1367 = .ok (.lshl, 1) := dc0 (j := 9) sL_law_1358 rfl op_121
theorem dL_law_1368 : decode cL_law 1368 = .ok (.aload_n 0, 1) := dc0 (j := 10) sL_law_1358 rfl op_42
theorem dL_law_1369 : decode cL_law 1369 = .ok (.iload_n 3, 1) := dc0 (j := 11) sL_law_1358 rfl op_29
theorem dL_law_1370 : decode cL_law 1370 = .ok (.iconst 4, 1) := dc0 (j := 12) sL_law_1358 rfl op_7
theorem dL_law_1371 : decode cL_law 1371 = .ok (.iadd, 1) := dc0 (j := 13) sL_law_1358 rfl op_96
theorem dL_law_1372 : decode cL_law 1372 = .ok (.iaload, 1) := dc0 (j := 14) sL_law_1358 rfl op_46
theorem dL_law_1373 : decode cL_law 1373 = .ok (.i2l, 1) := dc0 (j := 15) sL_law_1358 rfl op_133
theorem dL_law_1374 : decode cL_law 1374 = .ok (.ldc2_w 167, 3) := dcB (j := 16) (f := Instr.ldc2_w) sL_law_1358 rfl op_20 rfl
theorem dL_law_1377 : decode cL_law 1377 = .ok (.land, 1) := dc0 (j := 19) sL_law_1358 rfl op_127
theorem dL_law_1378 : decode cL_law 1378 = .ok (.lor, 1) := dc0 (j := 20) sL_law_1358 rfl op_129
theorem dL_law_1379 : decode cL_law 1379 = .ok (.invokevirtual 173, 3) := dcB (j := 21) (f := Instr.invokevirtual) sL_law_1358 rfl op_182 rfl
theorem dL_law_1382 : decode cL_law 1382 = .ok (.pop2, 1) := dc0 (j := 24) sL_law_1358 rfl op_88
theorem dL_law_1383 : decode cL_law 1383 = .ok (.goto 95, 3) := dcTp (j := 25) (v := 95) (f := Instr.goto) sL_law_1358 rfl op_167 rfl rfl
theorem dL_law_1386 : decode cL_law 1386 = .ok (.aload_n 1, 1) := dc0 (j := 28) sL_law_1358 rfl op_43
theorem dL_law_1387 : decode cL_law 1387 = .ok (.aload_n 0, 1) := dc0 (j := 29) sL_law_1358 rfl op_42
theorem dL_law_1388 : decode cL_law 1388 = .ok (.iload_n 3, 1) := dc0 (j := 30) sL_law_1358 rfl op_29
theorem dL_law_1389 : decode cL_law 1389 = .ok (.iconst 1, 1) := dc0 (j := 31) sL_law_1358 rfl op_4
theorem dL_law_1390 : decode cL_law 1390 = .ok (.iadd, 1) := dc0 (j := 32) sL_law_1358 rfl op_96
theorem dL_law_1391 : decode cL_law 1391 = .ok (.iaload, 1) := dc0 (j := 33) sL_law_1358 rfl op_46
theorem sL_law_1392 : sgm cL_law 1392 [182, 0, 174, 87, 44, 42, 29, 4, 96, 46, 182, 0, 177, 87, 167, 0, 72, 43, 42, 29, 4, 96, 46, 182, 0, 178, 87, 44, 42, 29, 4, 96, 46, 182, 0, 181] := by decide +kernel
theorem dL_law_1392 : decode cL_law 1392 = .ok (.invokevirtual 174, 3) := dcB (j := 0) (f := Instr.invokevirtual) sL_law_1392 rfl op_182 rfl
theorem dL_law_1395 : decode cL_law 1395 = .ok (.pop, 1) := dc0 (j := 3) sL_law_1392 rfl op_87
theorem dL_law_1396 : decode cL_law 1396 = .ok (.aload_n 2, 1) := dc0 (j := 4) sL_law_1392 rfl op_44
theorem dL_law_1397 : decode cL_law 1397 = .ok (.aload_n 0, 1) := dc0 (j := 5) sL_law_1392 rfl op_42
theorem dL_law_1398 : decode cL_law 1398 = .ok (.iload_n 3, 1) := dc0 (j := 6) sL_law_1392 rfl op_29
theorem dL_law_1399 : decode cL_law 1399 = .ok (.iconst 1, 1) := dc0 (j := 7) sL_law_1392 rfl op_4
theorem dL_law_1400 : decode cL_law 1400 = .ok (.iadd, 1) := dc0 (j := 8) sL_law_1392 rfl op_96
theorem dL_law_1401 : decode cL_law 1401 = .ok (.iaload, 1) := dc0 (j := 9) sL_law_1392 rfl op_46
theorem dL_law_1402 : decode cL_law 1402 = .ok (.invokevirtual 177, 3) := dcB (j := 10) (f := Instr.invokevirtual) sL_law_1392 rfl op_182 rfl
theorem dL_law_1405 : decode cL_law 1405 = .ok (.pop, 1) := dc0 (j := 13) sL_law_1392 rfl op_87
theorem dL_law_1406 : decode cL_law 1406 = .ok (.goto 72, 3) := dcTp (j := 14) (v := 72) (f := Instr.goto) sL_law_1392 rfl op_167 rfl rfl
theorem dL_law_1409 : decode cL_law 1409 = .ok (.aload_n 1, 1) := dc0 (j := 17) sL_law_1392 rfl op_43
theorem dL_law_1410 : decode cL_law 1410 = .ok (.aload_n 0, 1) := dc0 (j := 18) sL_law_1392 rfl op_42
theorem dL_law_1411 : decode cL_law 1411 = .ok (.iload_n 3, 1) := dc0 (j := 19) sL_law_1392 rfl op_29
theorem dL_law_1412 : decode cL_law 1412 = .ok (.iconst 1, 1) := dc0 (j := 20) sL_law_1392 rfl op_4
theorem dL_law_1413 : decode cL_law 1413 = .ok (.iadd, 1) := dc0 (j := 21) sL_law_1392 rfl op_96
theorem dL_law_1414 : decode cL_law 1414 = .ok (.iaload, 1) := dc0 (j := 22) sL_law_1392 rfl op_46
theorem dL_law_1415 : decode cL_law 1415 = .ok (.invokevirtual 178, 3) := dcB (j := 23) (f := Instr.invokevirtual) sL_law_1392 rfl op_182 rfl
theorem dL_law_1418 : decode cL_law 1418 = .ok (.pop, 1) := dc0 (j := 26) sL_law_1392 rfl op_87
theorem dL_law_1419 : decode cL_law 1419 = .ok (.aload_n 2, 1) := dc0 (j := 27) sL_law_1392 rfl op_44
theorem dL_law_1420 : decode cL_law 1420 = .ok (.aload_n 0, 1) := dc0 (j := 28) sL_law_1392 rfl op_42
theorem dL_law_1421 : decode cL_law 1421 = .ok (.iload_n 3, 1) := dc0 (j := 29) sL_law_1392 rfl op_29
theorem dL_law_1422 : decode cL_law 1422 = .ok (.iconst 1, 1) := dc0 (j := 30) sL_law_1392 rfl op_4
theorem dL_law_1423 : decode cL_law 1423 = .ok (.iadd, 1) := dc0 (j := 31) sL_law_1392 rfl op_96
theorem dL_law_1424 : decode cL_law 1424 = .ok (.iaload, 1) := dc0 (j := 32) sL_law_1392 rfl op_46
theorem dL_law_1425 : decode cL_law 1425 = .ok (.invokevirtual 181, 3) := dcB (j := 33) (f := Instr.invokevirtual) sL_law_1392 rfl op_182 rfl
theorem sL_law_1428 : sgm cL_law 1428 [87, 167, 0, 49, 43, 42, 29, 4, 96, 46, 182, 0, 182, 44, 42, 29, 4, 96, 46, 182, 0, 185, 159, 0, 28, 3, 172, 43, 42, 29, 4, 96, 46, 182, 0, 186] := by decide +kernel
theorem dL_law_1428 : decode cL_law 1428 = .ok (.pop, 1) := dc0 (j := 0) sL_law_1428 rfl op_87
theorem dL_law_1429 : decode cL_law 1429 = .ok (.goto 49, 3) := dcTp (j := 1) (v := 49) (f := Instr.goto) sL_law_1428 rfl op_167 rfl rfl
theorem dL_law_1432 : decode cL_law 1432 = .ok (.aload_n 1, 1) := dc0 (j := 4) sL_law_1428 rfl op_43
theorem dL_law_1433 : decode cL_law 1433 = .ok (.aload_n 0, 1) := dc0 (j := 5) sL_law_1428 rfl op_42
theorem dL_law_1434 : decode cL_law 1434 = .ok (.iload_n 3, 1) := dc0 (j := 6) sL_law_1428 rfl op_29
theorem dL_law_1435 : decode cL_law 1435 = .ok (.iconst 1, 1) := dc0 (j := 7) sL_law_1428 rfl op_4
theorem dL_law_1436 : decode cL_law 1436 = .ok (.iadd, 1) := dc0 (j := 8) sL_law_1428 rfl op_96
theorem dL_law_1437 : decode cL_law 1437 = .ok (.iaload, 1) := dc0 (j := 9) sL_law_1428 rfl op_46
theorem dL_law_1438 : decode cL_law 1438 = .ok (.invokevirtual 182, 3) := dcB (j := 10) (f := Instr.invokevirtual) sL_law_1428 rfl op_182 rfl
theorem dL_law_1441 : decode cL_law 1441 = .ok (.aload_n 2, 1) := dc0 (j := 13) sL_law_1428 rfl op_44
theorem dL_law_1442 : decode cL_law 1442 = .ok (.aload_n 0, 1) := dc0 (j := 14) sL_law_1428 rfl op_42
theorem dL_law_1443 : decode cL_law 1443 = .ok (.iload_n 3, 1) := dc0 (j := 15) sL_law_1428 rfl op_29
theorem dL_law_1444 : decode cL_law 1444 = .ok (.iconst 1, 1) := dc0 (j := 16) sL_law_1428 rfl op_4
theorem dL_law_1445 : decode cL_law 1445 = .ok (.iadd, 1) := dc0 (j := 17) sL_law_1428 rfl op_96
theorem dL_law_1446 : decode cL_law 1446 = .ok (.iaload, 1) := dc0 (j := 18) sL_law_1428 rfl op_46
theorem dL_law_1447 : decode cL_law 1447 = .ok (.invokevirtual 185, 3) := dcB (j := 19) (f := Instr.invokevirtual) sL_law_1428 rfl op_182 rfl
theorem dL_law_1450 : decode cL_law 1450 = .ok (.if_icmp .eq 28, 3) := dcTp (j := 22) (v := 28) (f := Instr.if_icmp .eq) sL_law_1428 rfl op_159 rfl rfl
theorem dL_law_1453 : decode cL_law 1453 = .ok (.iconst 0, 1) := dc0 (j := 25) sL_law_1428 rfl op_3
theorem dL_law_1454 : decode cL_law 1454 = .ok (.ireturn, 1) := dc0 (j := 26) sL_law_1428 rfl op_172
theorem dL_law_1455 : decode cL_law 1455 = .ok (.aload_n 1, 1) := dc0 (j := 27) sL_law_1428 rfl op_43
theorem dL_law_1456 : decode cL_law 1456 = .ok (.aload_n 0, 1) := dc0 (j := 28) sL_law_1428 rfl op_42
theorem dL_law_1457 : decode cL_law 1457 = .ok (.iload_n 3, 1) := dc0 (j := 29) sL_law_1428 rfl op_29
theorem dL_law_1458 : decode cL_law 1458 = .ok (.iconst 1, 1) := dc0 (j := 30) sL_law_1428 rfl op_4
theorem dL_law_1459 : decode cL_law 1459 = .ok (.iadd, 1) := dc0 (j := 31) sL_law_1428 rfl op_96
theorem dL_law_1460 : decode cL_law 1460 = .ok (.iaload, 1) := dc0 (j := 32) sL_law_1428 rfl op_46
theorem dL_law_1461 : decode cL_law 1461 = .ok (.invokevirtual 186, 3) := dcB (j := 33) (f := Instr.invokevirtual) sL_law_1428 rfl op_182 rfl
theorem sL_law_1464 : sgm cL_law 1464 [87, 44, 42, 29, 4, 96, 46, 182, 0, 189, 87, 167, 0, 3, 132, 3, 6, 167, 250, 73, 4, 172] := by decide +kernel
theorem dL_law_1464 : decode cL_law 1464 = .ok (.pop, 1) := dc0 (j := 0) sL_law_1464 rfl op_87
theorem dL_law_1465 : decode cL_law 1465 = .ok (.aload_n 2, 1) := dc0 (j := 1) sL_law_1464 rfl op_44
theorem dL_law_1466 : decode cL_law 1466 = .ok (.aload_n 0, 1) := dc0 (j := 2) sL_law_1464 rfl op_42
theorem dL_law_1467 : decode cL_law 1467 = .ok (.iload_n 3, 1) := dc0 (j := 3) sL_law_1464 rfl op_29
theorem dL_law_1468 : decode cL_law 1468 = .ok (.iconst 1, 1) := dc0 (j := 4) sL_law_1464 rfl op_4
theorem dL_law_1469 : decode cL_law 1469 = .ok (.iadd, 1) := dc0 (j := 5) sL_law_1464 rfl op_96
theorem dL_law_1470 : decode cL_law 1470 = .ok (.iaload, 1) := dc0 (j := 6) sL_law_1464 rfl op_46
theorem dL_law_1471 : decode cL_law 1471 = .ok (.invokevirtual 189, 3) := dcB (j := 7) (f := Instr.invokevirtual) sL_law_1464 rfl op_182 rfl
theorem dL_law_1474 : decode cL_law 1474 = .ok (.pop, 1) := dc0 (j := 10) sL_law_1464 rfl op_87
theorem dL_law_1475 : decode cL_law 1475 = .ok (.goto 3, 3) := dcTp (j := 11) (v := 3) (f := Instr.goto) sL_law_1464 rfl op_167 rfl rfl
theorem dL_law_1478 : decode cL_law 1478 = .ok (.iinc 3 6, 3) := dcIp (j := 14) sL_law_1464 rfl op_132 rfl
theorem dL_law_1481 : decode cL_law 1481 = .ok (.goto (-1463), 3) := dcTn (j := 17) (v := 1463) (f := Instr.goto) sL_law_1464 rfl op_167 rfl rfl rfl
theorem dL_law_1484 : decode cL_law 1484 = .ok (.iconst 1, 1) := dc0 (j := 20) sL_law_1464 rfl op_4
theorem dL_law_1485 : decode cL_law 1485 = .ok (.ireturn, 1) := dc0 (j := 21) sL_law_1464 rfl op_172
