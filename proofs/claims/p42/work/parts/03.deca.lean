theorem sX0_init_0 : sgm cX0_init 0 [42, 183, 0, 3, 42, 16, 7, 188, 10, 181, 0, 9, 42, 16, 7, 188, 10, 181, 0, 15, 177] := by decide +kernel
theorem dX0_init_0 : decode cX0_init 0 = .ok (.aload_n 0, 1) := dc0 (j := 0) sX0_init_0 rfl op_42
theorem dX0_init_1 : decode cX0_init 1 = .ok (.invokespecial 3, 3) := dcB (j := 1) (f := Instr.invokespecial) sX0_init_0 rfl op_183 rfl
theorem dX0_init_4 : decode cX0_init 4 = .ok (.aload_n 0, 1) := dc0 (j := 4) sX0_init_0 rfl op_42
theorem dX0_init_5 : decode cX0_init 5 = .ok (.bipush 7, 2) := dcSp (j := 5) (a := 7) (f := Instr.bipush) sX0_init_0 rfl op_16 rfl
theorem dX0_init_7 : decode cX0_init 7 = .ok (.newarray .int, 2) := dcN (j := 7) sX0_init_0 rfl na_10
theorem dX0_init_9 : decode cX0_init 9 = .ok (.putfield 9, 3) := dcB (j := 9) (f := Instr.putfield) sX0_init_0 rfl op_181 rfl
theorem dX0_init_12 : decode cX0_init 12 = .ok (.aload_n 0, 1) := dc0 (j := 12) sX0_init_0 rfl op_42
theorem dX0_init_13 : decode cX0_init 13 = .ok (.bipush 7, 2) := dcSp (j := 13) (a := 7) (f := Instr.bipush) sX0_init_0 rfl op_16 rfl
theorem dX0_init_15 : decode cX0_init 15 = .ok (.newarray .int, 2) := dcN (j := 15) sX0_init_0 rfl na_10
theorem dX0_init_17 : decode cX0_init 17 = .ok (.putfield 15, 3) := dcB (j := 17) (f := Instr.putfield) sX0_init_0 rfl op_181 rfl
theorem dX0_init_20 : decode cX0_init 20 = .ok (.return_, 1) := dc0 (j := 20) sX0_init_0 rfl op_177
theorem sX0_seekBest_0 : sgm cX0_seekBest 0 [42, 2, 181, 0, 18, 42, 180, 0, 15, 2, 184, 0, 22, 42, 43, 3, 3, 3, 182, 0, 28, 177] := by decide +kernel
theorem dX0_seekBest_0 : decode cX0_seekBest 0 = .ok (.aload_n 0, 1) := dc0 (j := 0) sX0_seekBest_0 rfl op_42
theorem dX0_seekBest_1 : decode cX0_seekBest 1 = .ok (.iconst (-1), 1) := dc0 (j := 1) sX0_seekBest_0 rfl op_2
theorem dX0_seekBest_2 : decode cX0_seekBest 2 = .ok (.putfield 18, 3) := dcB (j := 2) (f := Instr.putfield) sX0_seekBest_0 rfl op_181 rfl
theorem dX0_seekBest_5 : decode cX0_seekBest 5 = .ok (.aload_n 0, 1) := dc0 (j := 5) sX0_seekBest_0 rfl op_42
theorem dX0_seekBest_6 : decode cX0_seekBest 6 = .ok (.getfield 15, 3) := dcB (j := 6) (f := Instr.getfield) sX0_seekBest_0 rfl op_180 rfl
theorem dX0_seekBest_9 : decode cX0_seekBest 9 = .ok (.iconst (-1), 1) := dc0 (j := 9) sX0_seekBest_0 rfl op_2
theorem dX0_seekBest_10 : decode cX0_seekBest 10 = .ok (.invokestatic 22, 3) := dcB (j := 10) (f := Instr.invokestatic) sX0_seekBest_0 rfl op_184 rfl
theorem dX0_seekBest_13 : decode cX0_seekBest 13 = .ok (.aload_n 0, 1) := dc0 (j := 13) sX0_seekBest_0 rfl op_42
theorem dX0_seekBest_14 : decode cX0_seekBest 14 = .ok (.aload_n 1, 1) := dc0 (j := 14) sX0_seekBest_0 rfl op_43
theorem dX0_seekBest_15 : decode cX0_seekBest 15 = .ok (.iconst 0, 1) := dc0 (j := 15) sX0_seekBest_0 rfl op_3
theorem dX0_seekBest_16 : decode cX0_seekBest 16 = .ok (.iconst 0, 1) := dc0 (j := 16) sX0_seekBest_0 rfl op_3
theorem dX0_seekBest_17 : decode cX0_seekBest 17 = .ok (.iconst 0, 1) := dc0 (j := 17) sX0_seekBest_0 rfl op_3
theorem dX0_seekBest_18 : decode cX0_seekBest 18 = .ok (.invokevirtual 28, 3) := dcB (j := 18) (f := Instr.invokevirtual) sX0_seekBest_0 rfl op_182 rfl
theorem dX0_seekBest_21 : decode cX0_seekBest 21 = .ok (.return_, 1) := dc0 (j := 21) sX0_seekBest_0 rfl op_177
theorem sX0_layFrom_0 : sgm cX0_layFrom 0 [42, 180, 0, 18, 2, 159, 0, 13, 21, 4, 42, 180, 0, 18, 161, 0, 4, 177, 28, 43, 180, 0, 32, 162, 0, 9, 28, 16, 7, 161, 0, 25, 42, 21, 4] := by decide +kernel
theorem dX0_layFrom_0 : decode cX0_layFrom 0 = .ok (.aload_n 0, 1) := dc0 (j := 0) sX0_layFrom_0 rfl op_42
theorem dX0_layFrom_1 : decode cX0_layFrom 1 = .ok (.getfield 18, 3) := dcB (j := 1) (f := Instr.getfield) sX0_layFrom_0 rfl op_180 rfl
theorem dX0_layFrom_4 : decode cX0_layFrom 4 = .ok (.iconst (-1), 1) := dc0 (j := 4) sX0_layFrom_0 rfl op_2
theorem dX0_layFrom_5 : decode cX0_layFrom 5 = .ok (.if_icmp .eq 13, 3) := dcTp (j := 5) (v := 13) (f := Instr.if_icmp .eq) sX0_layFrom_0 rfl op_159 rfl rfl
theorem dX0_layFrom_8 : decode cX0_layFrom 8 = .ok (.iload 4, 2) := dcA (j := 8) (f := Instr.iload) sX0_layFrom_0 rfl op_21
theorem dX0_layFrom_10 : decode cX0_layFrom 10 = .ok (.aload_n 0, 1) := dc0 (j := 10) sX0_layFrom_0 rfl op_42
theorem dX0_layFrom_11 : decode cX0_layFrom 11 = .ok (.getfield 18, 3) := dcB (j := 11) (f := Instr.getfield) sX0_layFrom_0 rfl op_180 rfl
theorem dX0_layFrom_14 : decode cX0_layFrom 14 = .ok (.if_icmp .lt 4, 3) := dcTp (j := 14) (v := 4) (f := Instr.if_icmp .lt) sX0_layFrom_0 rfl op_161 rfl rfl
theorem dX0_layFrom_17 : decode cX0_layFrom 17 = .ok (.return_, 1) := dc0 (j := 17) sX0_layFrom_0 rfl op_177
theorem dX0_layFrom_18 : decode cX0_layFrom 18 = .ok (.iload_n 2, 1) := dc0 (j := 18) sX0_layFrom_0 rfl op_28
theorem dX0_layFrom_19 : decode cX0_layFrom 19 = .ok (.aload_n 1, 1) := dc0 (j := 19) sX0_layFrom_0 rfl op_43
theorem dX0_layFrom_20 : decode cX0_layFrom 20 = .ok (.getfield 32, 3) := dcB (j := 20) (f := Instr.getfield) sX0_layFrom_0 rfl op_180 rfl
theorem dX0_layFrom_23 : decode cX0_layFrom 23 = .ok (.if_icmp .ge 9, 3) := dcTp (j := 23) (v := 9) (f := Instr.if_icmp .ge) sX0_layFrom_0 rfl op_162 rfl rfl
theorem dX0_layFrom_26 : decode cX0_layFrom 26 = .ok (.iload_n 2, 1) := dc0 (j := 26) sX0_layFrom_0 rfl op_28
theorem dX0_layFrom_27 : decode cX0_layFrom 27 = .ok (.bipush 7, 2) := dcSp (j := 27) (a := 7) (f := Instr.bipush) sX0_layFrom_0 rfl op_16 rfl
theorem dX0_layFrom_29 : decode cX0_layFrom 29 = .ok (.if_icmp .lt 25, 3) := dcTp (j := 29) (v := 25) (f := Instr.if_icmp .lt) sX0_layFrom_0 rfl op_161 rfl rfl
theorem dX0_layFrom_32 : decode cX0_layFrom 32 = .ok (.aload_n 0, 1) := dc0 (j := 32) sX0_layFrom_0 rfl op_42
theorem dX0_layFrom_33 : decode cX0_layFrom 33 = .ok (.iload 4, 2) := dcA (j := 33) (f := Instr.iload) sX0_layFrom_0 rfl op_21
theorem sX0_layFrom_35 : sgm cX0_layFrom 35 [181, 0, 18, 42, 180, 0, 15, 3, 42, 180, 0, 9, 3, 16, 7, 184, 0, 37, 177, 3, 54, 5, 21, 5, 43, 180, 0, 32, 162, 0, 82, 29, 21, 5] := by decide +kernel
theorem dX0_layFrom_35 : decode cX0_layFrom 35 = .ok (.putfield 18, 3) := dcB (j := 0) (f := Instr.putfield) sX0_layFrom_35 rfl op_181 rfl
theorem dX0_layFrom_38 : decode cX0_layFrom 38 = .ok (.aload_n 0, 1) := dc0 (j := 3) sX0_layFrom_35 rfl op_42
theorem dX0_layFrom_39 : decode cX0_layFrom 39 = .ok (.getfield 15, 3) := dcB (j := 4) (f := Instr.getfield) sX0_layFrom_35 rfl op_180 rfl
theorem dX0_layFrom_42 : decode cX0_layFrom 42 = .ok (.iconst 0, 1) := dc0 (j := 7) sX0_layFrom_35 rfl op_3
theorem dX0_layFrom_43 : decode cX0_layFrom 43 = .ok (.aload_n 0, 1) := dc0 (j := 8) sX0_layFrom_35 rfl op_42
theorem dX0_layFrom_44 : decode cX0_layFrom 44 = .ok (.getfield 9, 3) := dcB (j := 9) (f := Instr.getfield) sX0_layFrom_35 rfl op_180 rfl
theorem dX0_layFrom_47 : decode cX0_layFrom 47 = .ok (.iconst 0, 1) := dc0 (j := 12) sX0_layFrom_35 rfl op_3
theorem dX0_layFrom_48 : decode cX0_layFrom 48 = .ok (.bipush 7, 2) := dcSp (j := 13) (a := 7) (f := Instr.bipush) sX0_layFrom_35 rfl op_16 rfl
theorem dX0_layFrom_50 : decode cX0_layFrom 50 = .ok (.invokestatic 37, 3) := dcB (j := 15) (f := Instr.invokestatic) sX0_layFrom_35 rfl op_184 rfl
theorem dX0_layFrom_53 : decode cX0_layFrom 53 = .ok (.return_, 1) := dc0 (j := 18) sX0_layFrom_35 rfl op_177
theorem dX0_layFrom_54 : decode cX0_layFrom 54 = .ok (.iconst 0, 1) := dc0 (j := 19) sX0_layFrom_35 rfl op_3
theorem dX0_layFrom_55 : decode cX0_layFrom 55 = .ok (.istore 5, 2) := dcA (j := 20) (f := Instr.istore) sX0_layFrom_35 rfl op_54
theorem dX0_layFrom_57 : decode cX0_layFrom 57 = .ok (.iload 5, 2) := dcA (j := 22) (f := Instr.iload) sX0_layFrom_35 rfl op_21
theorem dX0_layFrom_59 : decode cX0_layFrom 59 = .ok (.aload_n 1, 1) := dc0 (j := 24) sX0_layFrom_35 rfl op_43
theorem dX0_layFrom_60 : decode cX0_layFrom 60 = .ok (.getfield 32, 3) := dcB (j := 25) (f := Instr.getfield) sX0_layFrom_35 rfl op_180 rfl
theorem dX0_layFrom_63 : decode cX0_layFrom 63 = .ok (.if_icmp .ge 82, 3) := dcTp (j := 28) (v := 82) (f := Instr.if_icmp .ge) sX0_layFrom_35 rfl op_162 rfl rfl
theorem dX0_layFrom_66 : decode cX0_layFrom 66 = .ok (.iload_n 3, 1) := dc0 (j := 31) sX0_layFrom_35 rfl op_29
theorem dX0_layFrom_67 : decode cX0_layFrom 67 = .ok (.iload 5, 2) := dcA (j := 32) (f := Instr.iload) sX0_layFrom_35 rfl op_21
theorem sX0_layFrom_69 : sgm cX0_layFrom 69 [184, 0, 43, 154, 0, 67, 42, 43, 28, 21, 5, 182, 0, 47, 154, 0, 56, 42, 180, 0, 15, 28, 21, 5, 79, 43, 180, 0, 51, 28, 46, 43, 180, 0, 54] := by decide +kernel
theorem dX0_layFrom_69 : decode cX0_layFrom 69 = .ok (.invokestatic 43, 3) := dcB (j := 0) (f := Instr.invokestatic) sX0_layFrom_69 rfl op_184 rfl
theorem dX0_layFrom_72 : decode cX0_layFrom 72 = .ok (.ifCond .ne 67, 3) := dcTp (j := 3) (v := 67) (f := Instr.ifCond .ne) sX0_layFrom_69 rfl op_154 rfl rfl
theorem dX0_layFrom_75 : decode cX0_layFrom 75 = .ok (.aload_n 0, 1) := dc0 (j := 6) sX0_layFrom_69 rfl op_42
theorem dX0_layFrom_76 : decode cX0_layFrom 76 = .ok (.aload_n 1, 1) := dc0 (j := 7) sX0_layFrom_69 rfl op_43
theorem dX0_layFrom_77 : decode cX0_layFrom 77 = .ok (.iload_n 2, 1) := dc0 (j := 8) sX0_layFrom_69 rfl op_28
theorem dX0_layFrom_78 : decode cX0_layFrom 78 = .ok (.iload 5, 2) := dcA (j := 9) (f := Instr.iload) sX0_layFrom_69 rfl op_21
theorem dX0_layFrom_80 : decode cX0_layFrom 80 = .ok (.invokevirtual 47, 3) := dcB (j := 11) (f := Instr.invokevirtual) sX0_layFrom_69 rfl op_182 rfl
theorem dX0_layFrom_83 : decode cX0_layFrom 83 = .ok (.ifCond .ne 56, 3) := dcTp (j := 14) (v := 56) (f := Instr.ifCond .ne) sX0_layFrom_69 rfl op_154 rfl rfl
theorem dX0_layFrom_86 : decode cX0_layFrom 86 = .ok (.aload_n 0, 1) := dc0 (j := 17) sX0_layFrom_69 rfl op_42
theorem dX0_layFrom_87 : decode cX0_layFrom 87 = .ok (.getfield 15, 3) := dcB (j := 18) (f := Instr.getfield) sX0_layFrom_69 rfl op_180 rfl
theorem dX0_layFrom_90 : decode cX0_layFrom 90 = .ok (.iload_n 2, 1) := dc0 (j := 21) sX0_layFrom_69 rfl op_28
theorem dX0_layFrom_91 : decode cX0_layFrom 91 = .ok (.iload 5, 2) := dcA (j := 22) (f := Instr.iload) sX0_layFrom_69 rfl op_21
theorem dX0_layFrom_93 : decode cX0_layFrom 93 = .ok (.iastore, 1) := dc0 (j := 24) sX0_layFrom_69 rfl op_79
theorem dX0_layFrom_94 : decode cX0_layFrom 94 = .ok (.aload_n 1, 1) := dc0 (j := 25) sX0_layFrom_69 rfl op_43
theorem dX0_layFrom_95 : decode cX0_layFrom 95 = .ok (.getfield 51, 3) := dcB (j := 26) (f := Instr.getfield) sX0_layFrom_69 rfl op_180 rfl
theorem dX0_layFrom_98 : decode cX0_layFrom 98 = .ok (.iload_n 2, 1) := dc0 (j := 29) sX0_layFrom_69 rfl op_28
theorem dX0_layFrom_99 : decode cX0_layFrom 99 = .ok (.iaload, 1) := dc0 (j := 30) sX0_layFrom_69 rfl op_46
theorem dX0_layFrom_100 : decode cX0_layFrom 100 = .ok (.aload_n 1, 1) := dc0 (j := 31) sX0_layFrom_69 rfl op_43
theorem dX0_layFrom_101 : decode cX0_layFrom 101 = .ok (.getfield 54, 3) := dcB (j := 32) (f := Instr.getfield) sX0_layFrom_69 rfl op_180 rfl
theorem sX0_layFrom_104 : sgm cX0_layFrom 104 [21, 5, 46, 100, 184, 0, 57, 54, 6, 42, 43, 28, 4, 96, 29, 4, 21, 5, 120, 128, 21, 4, 21, 6, 96, 182, 0, 28, 42, 180, 0, 15, 28, 2, 79] := by decide +kernel
theorem dX0_layFrom_104 : decode cX0_layFrom 104 = .ok (.iload 5, 2) := dcA (j := 0) (f := Instr.iload) sX0_layFrom_104 rfl op_21
theorem dX0_layFrom_106 : decode cX0_layFrom 106 = .ok (.iaload, 1) := dc0 (j := 2) sX0_layFrom_104 rfl op_46
theorem dX0_layFrom_107 : decode cX0_layFrom 107 = .ok (.isub, 1) := dc0 (j := 3) sX0_layFrom_104 rfl op_100
theorem dX0_layFrom_108 : decode cX0_layFrom 108 = .ok (.invokestatic 57, 3) := dcB (j := 4) (f := Instr.invokestatic) sX0_layFrom_104 rfl op_184 rfl
theorem dX0_layFrom_111 : decode cX0_layFrom 111 = .ok (.istore 6, 2) := dcA (j := 7) (f := Instr.istore) sX0_layFrom_104 rfl op_54
theorem dX0_layFrom_113 : decode cX0_layFrom 113 = .ok (.aload_n 0, 1) := dc0 (j := 9) sX0_layFrom_104 rfl op_42
theorem dX0_layFrom_114 : decode cX0_layFrom 114 = .ok (.aload_n 1, 1) := dc0 (j := 10) sX0_layFrom_104 rfl op_43
theorem dX0_layFrom_115 : decode cX0_layFrom 115 = .ok (.iload_n 2, 1) := dc0 (j := 11) sX0_layFrom_104 rfl op_28
theorem dX0_layFrom_116 : decode cX0_layFrom 116 = .ok (.iconst 1, 1) := dc0 (j := 12) sX0_layFrom_104 rfl op_4
theorem dX0_layFrom_117 : decode cX0_layFrom 117 = .ok (.iadd, 1) := dc0 (j := 13) sX0_layFrom_104 rfl op_96
theorem dX0_layFrom_118 : decode cX0_layFrom 118 = .ok (.iload_n 3, 1) := dc0 (j := 14) sX0_layFrom_104 rfl op_29
theorem dX0_layFrom_119 : decode cX0_layFrom 119 = .ok (.iconst 1, 1) := dc0 (j := 15) sX0_layFrom_104 rfl op_4
theorem dX0_layFrom_120 : decode cX0_layFrom 120 = .ok (.iload 5, 2) := dcA (j := 16) (f := Instr.iload) sX0_layFrom_104 rfl op_21
theorem dX0_layFrom_122 : decode cX0_layFrom 122 = .ok (.ishl, 1) := dc0 (j := 18) sX0_layFrom_104 rfl op_120
theorem dX0_layFrom_123 : decode cX0_layFrom 123 = .ok (.ior, 1) := dc0 (j := 19) sX0_layFrom_104 rfl op_128
theorem dX0_layFrom_124 : decode cX0_layFrom 124 = .ok (.iload 4, 2) := dcA (j := 20) (f := Instr.iload) sX0_layFrom_104 rfl op_21
theorem dX0_layFrom_126 : decode cX0_layFrom 126 = .ok (.iload 6, 2) := dcA (j := 22) (f := Instr.iload) sX0_layFrom_104 rfl op_21
theorem dX0_layFrom_128 : decode cX0_layFrom 128 = .ok (.iadd, 1) := dc0 (j := 24) sX0_layFrom_104 rfl op_96
theorem dX0_layFrom_129 : decode cX0_layFrom 129 = .ok (.invokevirtual 28, 3) := dcB (j := 25) (f := Instr.invokevirtual) sX0_layFrom_104 rfl op_182 rfl
theorem dX0_layFrom_132 : decode cX0_layFrom 132 = .ok (.aload_n 0, 1) := dc0 (j := 28) sX0_layFrom_104 rfl op_42
theorem dX0_layFrom_133 : decode cX0_layFrom 133 = .ok (.getfield 15, 3) := dcB (j := 29) (f := Instr.getfield) sX0_layFrom_104 rfl op_180 rfl
theorem dX0_layFrom_136 : decode cX0_layFrom 136 = .ok (.iload_n 2, 1) := dc0 (j := 32) sX0_layFrom_104 rfl op_28
theorem dX0_layFrom_137 : decode cX0_layFrom 137 = .ok (.iconst (-1), 1) := dc0 (j := 33) sX0_layFrom_104 rfl op_2
theorem dX0_layFrom_138 : decode cX0_layFrom 138 = .ok (.iastore, 1) := dc0 (j := 34) sX0_layFrom_104 rfl op_79
theorem sX0_layFrom_139 : sgm cX0_layFrom 139 [132, 5, 1, 167, 255, 171, 177] := by decide +kernel
theorem dX0_layFrom_139 : decode cX0_layFrom 139 = .ok (.iinc 5 1, 3) := dcIp (j := 0) sX0_layFrom_139 rfl op_132 rfl
theorem dX0_layFrom_142 : decode cX0_layFrom 142 = .ok (.goto (-85), 3) := dcTn (j := 3) (v := 85) (f := Instr.goto) sX0_layFrom_139 rfl op_167 rfl rfl rfl
theorem dX0_layFrom_145 : decode cX0_layFrom 145 = .ok (.return_, 1) := dc0 (j := 6) sX0_layFrom_139 rfl op_177
theorem sX0_closesTooSoon_0 : sgm cX0_closesTooSoon 0 [29, 54, 4, 3, 54, 5, 21, 5, 43, 180, 0, 32, 162, 0, 46, 21, 4, 2, 159, 0, 40, 21, 4, 28, 160, 0, 19, 28, 43, 180, 0, 32, 4, 100] := by decide +kernel
theorem dX0_closesTooSoon_0 : decode cX0_closesTooSoon 0 = .ok (.iload_n 3, 1) := dc0 (j := 0) sX0_closesTooSoon_0 rfl op_29
theorem dX0_closesTooSoon_1 : decode cX0_closesTooSoon 1 = .ok (.istore 4, 2) := dcA (j := 1) (f := Instr.istore) sX0_closesTooSoon_0 rfl op_54
theorem dX0_closesTooSoon_3 : decode cX0_closesTooSoon 3 = .ok (.iconst 0, 1) := dc0 (j := 3) sX0_closesTooSoon_0 rfl op_3
theorem dX0_closesTooSoon_4 : decode cX0_closesTooSoon 4 = .ok (.istore 5, 2) := dcA (j := 4) (f := Instr.istore) sX0_closesTooSoon_0 rfl op_54
theorem dX0_closesTooSoon_6 : decode cX0_closesTooSoon 6 = .ok (.iload 5, 2) := dcA (j := 6) (f := Instr.iload) sX0_closesTooSoon_0 rfl op_21
theorem dX0_closesTooSoon_8 : decode cX0_closesTooSoon 8 = .ok (.aload_n 1, 1) := dc0 (j := 8) sX0_closesTooSoon_0 rfl op_43
theorem dX0_closesTooSoon_9 : decode cX0_closesTooSoon 9 = .ok (.getfield 32, 3) := dcB (j := 9) (f := Instr.getfield) sX0_closesTooSoon_0 rfl op_180 rfl
theorem dX0_closesTooSoon_12 : decode cX0_closesTooSoon 12 = .ok (.if_icmp .ge 46, 3) := dcTp (j := 12) (v := 46) (f := Instr.if_icmp .ge) sX0_closesTooSoon_0 rfl op_162 rfl rfl
theorem dX0_closesTooSoon_15 : decode cX0_closesTooSoon 15 = .ok (.iload 4, 2) := dcA (j := 15) (f := Instr.iload) sX0_closesTooSoon_0 rfl op_21
theorem dX0_closesTooSoon_17 : decode cX0_closesTooSoon 17 = .ok (.iconst (-1), 1) := dc0 (j := 17) sX0_closesTooSoon_0 rfl op_2
theorem dX0_closesTooSoon_18 : decode cX0_closesTooSoon 18 = .ok (.if_icmp .eq 40, 3) := dcTp (j := 18) (v := 40) (f := Instr.if_icmp .eq) sX0_closesTooSoon_0 rfl op_159 rfl rfl
theorem dX0_closesTooSoon_21 : decode cX0_closesTooSoon 21 = .ok (.iload 4, 2) := dcA (j := 21) (f := Instr.iload) sX0_closesTooSoon_0 rfl op_21
theorem dX0_closesTooSoon_23 : decode cX0_closesTooSoon 23 = .ok (.iload_n 2, 1) := dc0 (j := 23) sX0_closesTooSoon_0 rfl op_28
theorem dX0_closesTooSoon_24 : decode cX0_closesTooSoon 24 = .ok (.if_icmp .ne 19, 3) := dcTp (j := 24) (v := 19) (f := Instr.if_icmp .ne) sX0_closesTooSoon_0 rfl op_160 rfl rfl
theorem dX0_closesTooSoon_27 : decode cX0_closesTooSoon 27 = .ok (.iload_n 2, 1) := dc0 (j := 27) sX0_closesTooSoon_0 rfl op_28
theorem dX0_closesTooSoon_28 : decode cX0_closesTooSoon 28 = .ok (.aload_n 1, 1) := dc0 (j := 28) sX0_closesTooSoon_0 rfl op_43
theorem dX0_closesTooSoon_29 : decode cX0_closesTooSoon 29 = .ok (.getfield 32, 3) := dcB (j := 29) (f := Instr.getfield) sX0_closesTooSoon_0 rfl op_180 rfl
theorem dX0_closesTooSoon_32 : decode cX0_closesTooSoon 32 = .ok (.iconst 1, 1) := dc0 (j := 32) sX0_closesTooSoon_0 rfl op_4
theorem dX0_closesTooSoon_33 : decode cX0_closesTooSoon 33 = .ok (.isub, 1) := dc0 (j := 33) sX0_closesTooSoon_0 rfl op_100
theorem sX0_closesTooSoon_34 : sgm cX0_closesTooSoon 34 [162, 0, 7, 4, 167, 0, 4, 3, 172, 42, 180, 0, 15, 21, 4, 46, 54, 4, 132, 5, 1, 167, 255, 207, 3, 172] := by decide +kernel
theorem dX0_closesTooSoon_34 : decode cX0_closesTooSoon 34 = .ok (.if_icmp .ge 7, 3) := dcTp (j := 0) (v := 7) (f := Instr.if_icmp .ge) sX0_closesTooSoon_34 rfl op_162 rfl rfl
theorem dX0_closesTooSoon_37 : decode cX0_closesTooSoon 37 = .ok (.iconst 1, 1) := dc0 (j := 3) sX0_closesTooSoon_34 rfl op_4
theorem dX0_closesTooSoon_38 : decode cX0_closesTooSoon 38 = .ok (.goto 4, 3) := dcTp (j := 4) (v := 4) (f := Instr.goto) sX0_closesTooSoon_34 rfl op_167 rfl rfl
theorem dX0_closesTooSoon_41 : decode cX0_closesTooSoon 41 = .ok (.iconst 0, 1) := dc0 (j := 7) sX0_closesTooSoon_34 rfl op_3
theorem dX0_closesTooSoon_42 : decode cX0_closesTooSoon 42 = .ok (.ireturn, 1) := dc0 (j := 8) sX0_closesTooSoon_34 rfl op_172
theorem dX0_closesTooSoon_43 : decode cX0_closesTooSoon 43 = .ok (.aload_n 0, 1) := dc0 (j := 9) sX0_closesTooSoon_34 rfl op_42
theorem dX0_closesTooSoon_44 : decode cX0_closesTooSoon 44 = .ok (.getfield 15, 3) := dcB (j := 10) (f := Instr.getfield) sX0_closesTooSoon_34 rfl op_180 rfl
theorem dX0_closesTooSoon_47 : decode cX0_closesTooSoon 47 = .ok (.iload 4, 2) := dcA (j := 13) (f := Instr.iload) sX0_closesTooSoon_34 rfl op_21
theorem dX0_closesTooSoon_49 : decode cX0_closesTooSoon 49 = .ok (.iaload, 1) := dc0 (j := 15) sX0_closesTooSoon_34 rfl op_46
theorem dX0_closesTooSoon_50 : decode cX0_closesTooSoon 50 = .ok (.istore 4, 2) := dcA (j := 16) (f := Instr.istore) sX0_closesTooSoon_34 rfl op_54
theorem dX0_closesTooSoon_52 : decode cX0_closesTooSoon 52 = .ok (.iinc 5 1, 3) := dcIp (j := 18) sX0_closesTooSoon_34 rfl op_132 rfl
theorem dX0_closesTooSoon_55 : decode cX0_closesTooSoon 55 = .ok (.goto (-49), 3) := dcTn (j := 21) (v := 49) (f := Instr.goto) sX0_closesTooSoon_34 rfl op_167 rfl rfl rfl
theorem dX0_closesTooSoon_58 : decode cX0_closesTooSoon 58 = .ok (.iconst 0, 1) := dc0 (j := 24) sX0_closesTooSoon_34 rfl op_3
theorem dX0_closesTooSoon_59 : decode cX0_closesTooSoon 59 = .ok (.ireturn, 1) := dc0 (j := 25) sX0_closesTooSoon_34 rfl op_172
theorem sX1_init_0 : sgm cX1_init 0 [42, 183, 0, 3, 42, 16, 40, 188, 11, 181, 0, 9, 177] := by decide +kernel
theorem dX1_init_0 : decode cX1_init 0 = .ok (.aload_n 0, 1) := dc0 (j := 0) sX1_init_0 rfl op_42
theorem dX1_init_1 : decode cX1_init 1 = .ok (.invokespecial 3, 3) := dcB (j := 1) (f := Instr.invokespecial) sX1_init_0 rfl op_183 rfl
theorem dX1_init_4 : decode cX1_init 4 = .ok (.aload_n 0, 1) := dc0 (j := 4) sX1_init_0 rfl op_42
theorem dX1_init_5 : decode cX1_init 5 = .ok (.bipush 40, 2) := dcSp (j := 5) (a := 40) (f := Instr.bipush) sX1_init_0 rfl op_16 rfl
theorem dX1_init_7 : decode cX1_init 7 = .ok (.newarray .long, 2) := dcN (j := 7) sX1_init_0 rfl na_11
theorem dX1_init_9 : decode cX1_init 9 = .ok (.putfield 9, 3) := dcB (j := 9) (f := Instr.putfield) sX1_init_0 rfl op_181 rfl
theorem dX1_init_12 : decode cX1_init 12 = .ok (.return_, 1) := dc0 (j := 12) sX1_init_0 rfl op_177
theorem sX1_begin_0 : sgm cX1_begin 0 [42, 4, 181, 0, 15, 42, 27, 181, 0, 19, 42, 28, 181, 0, 23, 42, 180, 0, 9, 9, 184, 0, 26, 177] := by decide +kernel
theorem dX1_begin_0 : decode cX1_begin 0 = .ok (.aload_n 0, 1) := dc0 (j := 0) sX1_begin_0 rfl op_42
theorem dX1_begin_1 : decode cX1_begin 1 = .ok (.iconst 1, 1) := dc0 (j := 1) sX1_begin_0 rfl op_4
theorem dX1_begin_2 : decode cX1_begin 2 = .ok (.putfield 15, 3) := dcB (j := 2) (f := Instr.putfield) sX1_begin_0 rfl op_181 rfl
theorem dX1_begin_5 : decode cX1_begin 5 = .ok (.aload_n 0, 1) := dc0 (j := 5) sX1_begin_0 rfl op_42
theorem dX1_begin_6 : decode cX1_begin 6 = .ok (.iload_n 1, 1) := dc0 (j := 6) sX1_begin_0 rfl op_27
theorem dX1_begin_7 : decode cX1_begin 7 = .ok (.putfield 19, 3) := dcB (j := 7) (f := Instr.putfield) sX1_begin_0 rfl op_181 rfl
theorem dX1_begin_10 : decode cX1_begin 10 = .ok (.aload_n 0, 1) := dc0 (j := 10) sX1_begin_0 rfl op_42
theorem dX1_begin_11 : decode cX1_begin 11 = .ok (.iload_n 2, 1) := dc0 (j := 11) sX1_begin_0 rfl op_28
theorem dX1_begin_12 : decode cX1_begin 12 = .ok (.putfield 23, 3) := dcB (j := 12) (f := Instr.putfield) sX1_begin_0 rfl op_181 rfl
theorem dX1_begin_15 : decode cX1_begin 15 = .ok (.aload_n 0, 1) := dc0 (j := 15) sX1_begin_0 rfl op_42
theorem dX1_begin_16 : decode cX1_begin 16 = .ok (.getfield 9, 3) := dcB (j := 16) (f := Instr.getfield) sX1_begin_0 rfl op_180 rfl
theorem dX1_begin_19 : decode cX1_begin 19 = .ok (.lconst 0, 1) := dc0 (j := 19) sX1_begin_0 rfl op_9
theorem dX1_begin_20 : decode cX1_begin 20 = .ok (.invokestatic 26, 3) := dcB (j := 20) (f := Instr.invokestatic) sX1_begin_0 rfl op_184 rfl
theorem dX1_begin_23 : decode cX1_begin 23 = .ok (.return_, 1) := dc0 (j := 23) sX1_begin_0 rfl op_177
theorem sX1_put_0 : sgm cX1_put 0 [42, 180, 0, 9, 27, 42, 32, 182, 0, 32, 80, 177] := by decide +kernel
theorem dX1_put_0 : decode cX1_put 0 = .ok (.aload_n 0, 1) := dc0 (j := 0) sX1_put_0 rfl op_42
theorem dX1_put_1 : decode cX1_put 1 = .ok (.getfield 9, 3) := dcB (j := 1) (f := Instr.getfield) sX1_put_0 rfl op_180 rfl
theorem dX1_put_4 : decode cX1_put 4 = .ok (.iload_n 1, 1) := dc0 (j := 4) sX1_put_0 rfl op_27
theorem dX1_put_5 : decode cX1_put 5 = .ok (.aload_n 0, 1) := dc0 (j := 5) sX1_put_0 rfl op_42
theorem dX1_put_6 : decode cX1_put 6 = .ok (.lload_n 2, 1) := dc0 (j := 6) sX1_put_0 rfl op_32
theorem dX1_put_7 : decode cX1_put 7 = .ok (.invokevirtual 32, 3) := dcB (j := 7) (f := Instr.invokevirtual) sX1_put_0 rfl op_182 rfl
theorem dX1_put_10 : decode cX1_put 10 = .ok (.lastore, 1) := dc0 (j := 10) sX1_put_0 rfl op_80
theorem dX1_put_11 : decode cX1_put 11 = .ok (.return_, 1) := dc0 (j := 11) sX1_put_0 rfl op_177
theorem sX1_cut_0 : sgm cX1_cut 0 [42, 180, 0, 19] := by decide +kernel
theorem dX1_cut_0 : decode cX1_cut 0 = .ok (.aload_n 0, 1) := dc0 (j := 0) sX1_cut_0 rfl op_42
theorem dX1_cut_1 : decode cX1_cut 1 = .ok (.getfield 19, 3) := dcB (j := 1) (f := Instr.getfield) sX1_cut_0 rfl op_180 rfl
theorem dX1_cut_4 : decode cX1_cut 4 = .ok (.tableswitch 42 0 2 #[28, 33, 38], 28) := by decide +kernel
theorem sX1_cut_32 : sgm cX1_cut 32 [31, 136, 145, 133, 173, 31, 136, 147, 133, 173, 31, 136, 133, 173, 31, 173] := by decide +kernel
theorem dX1_cut_32 : decode cX1_cut 32 = .ok (.lload_n 1, 1) := dc0 (j := 0) sX1_cut_32 rfl op_31
theorem dX1_cut_33 : decode cX1_cut 33 = .ok (.l2i, 1) := dc0 (j := 1) sX1_cut_32 rfl op_136
theorem dX1_cut_34 : decode cX1_cut 34 = .ok (.i2b, 1) := dc0 (j := 2) sX1_cut_32 rfl op_145
theorem dX1_cut_35 : decode cX1_cut 35 = .ok (.i2l, 1) := dc0 (j := 3) sX1_cut_32 rfl op_133
theorem dX1_cut_36 : decode cX1_cut 36 = .ok (.lreturn, 1) := dc0 (j := 4) sX1_cut_32 rfl op_173
theorem dX1_cut_37 : decode cX1_cut 37 = .ok (.lload_n 1, 1) := dc0 (j := 5) sX1_cut_32 rfl op_31
theorem dX1_cut_38 : decode cX1_cut 38 = .ok (.l2i, 1) := dc0 (j := 6) sX1_cut_32 rfl op_136
theorem dX1_cut_39 : decode cX1_cut 39 = .ok (.i2s, 1) := dc0 (j := 7) sX1_cut_32 rfl op_147
theorem dX1_cut_40 : decode cX1_cut 40 = .ok (.i2l, 1) := dc0 (j := 8) sX1_cut_32 rfl op_133
theorem dX1_cut_41 : decode cX1_cut 41 = .ok (.lreturn, 1) := dc0 (j := 9) sX1_cut_32 rfl op_173
theorem dX1_cut_42 : decode cX1_cut 42 = .ok (.lload_n 1, 1) := dc0 (j := 10) sX1_cut_32 rfl op_31
theorem dX1_cut_43 : decode cX1_cut 43 = .ok (.l2i, 1) := dc0 (j := 11) sX1_cut_32 rfl op_136
theorem dX1_cut_44 : decode cX1_cut 44 = .ok (.i2l, 1) := dc0 (j := 12) sX1_cut_32 rfl op_133
theorem dX1_cut_45 : decode cX1_cut 45 = .ok (.lreturn, 1) := dc0 (j := 13) sX1_cut_32 rfl op_173
theorem dX1_cut_46 : decode cX1_cut 46 = .ok (.lload_n 1, 1) := dc0 (j := 14) sX1_cut_32 rfl op_31
theorem dX1_cut_47 : decode cX1_cut 47 = .ok (.lreturn, 1) := dc0 (j := 15) sX1_cut_32 rfl op_173
theorem sX2_init_0 : sgm cX2_init 0 [42, 183, 0, 3, 42, 2, 181, 0, 9, 42, 17, 3, 132, 188, 8, 181, 0, 15, 177] := by decide +kernel
theorem dX2_init_0 : decode cX2_init 0 = .ok (.aload_n 0, 1) := dc0 (j := 0) sX2_init_0 rfl op_42
theorem dX2_init_1 : decode cX2_init 1 = .ok (.invokespecial 3, 3) := dcB (j := 1) (f := Instr.invokespecial) sX2_init_0 rfl op_183 rfl
theorem dX2_init_4 : decode cX2_init 4 = .ok (.aload_n 0, 1) := dc0 (j := 4) sX2_init_0 rfl op_42
theorem dX2_init_5 : decode cX2_init 5 = .ok (.iconst (-1), 1) := dc0 (j := 5) sX2_init_0 rfl op_2
theorem dX2_init_6 : decode cX2_init 6 = .ok (.putfield 9, 3) := dcB (j := 6) (f := Instr.putfield) sX2_init_0 rfl op_181 rfl
theorem dX2_init_9 : decode cX2_init 9 = .ok (.aload_n 0, 1) := dc0 (j := 9) sX2_init_0 rfl op_42
theorem dX2_init_10 : decode cX2_init 10 = .ok (.sipush 900, 3) := dcTp (j := 10) (v := 900) (f := Instr.sipush) sX2_init_0 rfl op_17 rfl rfl
theorem dX2_init_13 : decode cX2_init 13 = .ok (.newarray .byte, 2) := dcN (j := 13) sX2_init_0 rfl na_8
theorem dX2_init_15 : decode cX2_init 15 = .ok (.putfield 15, 3) := dcB (j := 15) (f := Instr.putfield) sX2_init_0 rfl op_181 rfl
theorem dX2_init_18 : decode cX2_init 18 = .ok (.return_, 1) := dc0 (j := 18) sX2_init_0 rfl op_177
theorem sX2_putBytes_0 : sgm cX2_putBytes 0 [16, 24, 61, 28, 155, 0, 42, 42, 180, 0, 19, 17, 3, 132, 162, 0, 32, 42, 180, 0, 15, 42, 180, 0, 19, 27, 28, 122, 145, 84, 42, 89, 180, 0, 19, 4] := by decide +kernel
theorem dX2_putBytes_0 : decode cX2_putBytes 0 = .ok (.bipush 24, 2) := dcSp (j := 0) (a := 24) (f := Instr.bipush) sX2_putBytes_0 rfl op_16 rfl
theorem dX2_putBytes_2 : decode cX2_putBytes 2 = .ok (.istore_n 2, 1) := dc0 (j := 2) sX2_putBytes_0 rfl op_61
theorem dX2_putBytes_3 : decode cX2_putBytes 3 = .ok (.iload_n 2, 1) := dc0 (j := 3) sX2_putBytes_0 rfl op_28
theorem dX2_putBytes_4 : decode cX2_putBytes 4 = .ok (.ifCond .lt 42, 3) := dcTp (j := 4) (v := 42) (f := Instr.ifCond .lt) sX2_putBytes_0 rfl op_155 rfl rfl
theorem dX2_putBytes_7 : decode cX2_putBytes 7 = .ok (.aload_n 0, 1) := dc0 (j := 7) sX2_putBytes_0 rfl op_42
theorem dX2_putBytes_8 : decode cX2_putBytes 8 = .ok (.getfield 19, 3) := dcB (j := 8) (f := Instr.getfield) sX2_putBytes_0 rfl op_180 rfl
theorem dX2_putBytes_11 : decode cX2_putBytes 11 = .ok (.sipush 900, 3) := dcTp (j := 11) (v := 900) (f := Instr.sipush) sX2_putBytes_0 rfl op_17 rfl rfl
theorem dX2_putBytes_14 : decode cX2_putBytes 14 = .ok (.if_icmp .ge 32, 3) := dcTp (j := 14) (v := 32) (f := Instr.if_icmp .ge) sX2_putBytes_0 rfl op_162 rfl rfl
theorem dX2_putBytes_17 : decode cX2_putBytes 17 = .ok (.aload_n 0, 1) := dc0 (j := 17) sX2_putBytes_0 rfl op_42
theorem dX2_putBytes_18 : decode cX2_putBytes 18 = .ok (.getfield 15, 3) := dcB (j := 18) (f := Instr.getfield) sX2_putBytes_0 rfl op_180 rfl
theorem dX2_putBytes_21 : decode cX2_putBytes 21 = .ok (.aload_n 0, 1) := dc0 (j := 21) sX2_putBytes_0 rfl op_42
theorem dX2_putBytes_22 : decode cX2_putBytes 22 = .ok (.getfield 19, 3) := dcB (j := 22) (f := Instr.getfield) sX2_putBytes_0 rfl op_180 rfl
theorem dX2_putBytes_25 : decode cX2_putBytes 25 = .ok (.iload_n 1, 1) := dc0 (j := 25) sX2_putBytes_0 rfl op_27
theorem dX2_putBytes_26 : decode cX2_putBytes 26 = .ok (.iload_n 2, 1) := dc0 (j := 26) sX2_putBytes_0 rfl op_28
theorem dX2_putBytes_27 : decode cX2_putBytes 27 = .ok (.ishr, 1) := dc0 (j := 27) sX2_putBytes_0 rfl op_122
theorem dX2_putBytes_28 : decode cX2_putBytes 28 = .ok (.i2b, 1) := dc0 (j := 28) sX2_putBytes_0 rfl op_145
theorem dX2_putBytes_29 : decode cX2_putBytes 29 = .ok (.bastore, 1) := dc0 (j := 29) sX2_putBytes_0 rfl op_84
theorem dX2_putBytes_30 : decode cX2_putBytes 30 = .ok (.aload_n 0, 1) := dc0 (j := 30) sX2_putBytes_0 rfl op_42
theorem dX2_putBytes_31 : decode cX2_putBytes 31 = .ok (.dup, 1) := dc0 (j := 31) sX2_putBytes_0 rfl op_89
theorem dX2_putBytes_32 : decode cX2_putBytes 32 = .ok (.getfield 19, 3) := dcB (j := 32) (f := Instr.getfield) sX2_putBytes_0 rfl op_180 rfl
theorem dX2_putBytes_35 : decode cX2_putBytes 35 = .ok (.iconst 1, 1) := dc0 (j := 35) sX2_putBytes_0 rfl op_4
theorem sX2_putBytes_36 : sgm cX2_putBytes 36 [96, 181, 0, 19, 132, 2, 248, 167, 255, 216, 177] := by decide +kernel
theorem dX2_putBytes_36 : decode cX2_putBytes 36 = .ok (.iadd, 1) := dc0 (j := 0) sX2_putBytes_36 rfl op_96
theorem dX2_putBytes_37 : decode cX2_putBytes 37 = .ok (.putfield 19, 3) := dcB (j := 1) (f := Instr.putfield) sX2_putBytes_36 rfl op_181 rfl
theorem dX2_putBytes_40 : decode cX2_putBytes 40 = .ok (.iinc 2 (-8), 3) := dcIn (j := 4) (v := 8) sX2_putBytes_36 rfl op_132 rfl rfl rfl
theorem dX2_putBytes_43 : decode cX2_putBytes 43 = .ok (.goto (-40), 3) := dcTn (j := 7) (v := 40) (f := Instr.goto) sX2_putBytes_36 rfl op_167 rfl rfl rfl
theorem dX2_putBytes_46 : decode cX2_putBytes 46 = .ok (.return_, 1) := dc0 (j := 10) sX2_putBytes_36 rfl op_177
theorem sX2_readStreet_0 : sgm cX2_readStreet 0 [42, 27, 42, 180, 0, 19, 184, 0, 22, 181, 0, 28, 42, 3, 181, 0, 19, 42, 3, 181, 0, 31, 42, 3, 181, 0, 34, 42, 2, 181, 0, 9, 44, 182, 0, 37] := by decide +kernel
theorem dX2_readStreet_0 : decode cX2_readStreet 0 = .ok (.aload_n 0, 1) := dc0 (j := 0) sX2_readStreet_0 rfl op_42
theorem dX2_readStreet_1 : decode cX2_readStreet 1 = .ok (.iload_n 1, 1) := dc0 (j := 1) sX2_readStreet_0 rfl op_27
theorem dX2_readStreet_2 : decode cX2_readStreet 2 = .ok (.aload_n 0, 1) := dc0 (j := 2) sX2_readStreet_0 rfl op_42
theorem dX2_readStreet_3 : decode cX2_readStreet 3 = .ok (.getfield 19, 3) := dcB (j := 3) (f := Instr.getfield) sX2_readStreet_0 rfl op_180 rfl
theorem dX2_readStreet_6 : decode cX2_readStreet 6 = .ok (.invokestatic 22, 3) := dcB (j := 6) (f := Instr.invokestatic) sX2_readStreet_0 rfl op_184 rfl
theorem dX2_readStreet_9 : decode cX2_readStreet 9 = .ok (.putfield 28, 3) := dcB (j := 9) (f := Instr.putfield) sX2_readStreet_0 rfl op_181 rfl
theorem dX2_readStreet_12 : decode cX2_readStreet 12 = .ok (.aload_n 0, 1) := dc0 (j := 12) sX2_readStreet_0 rfl op_42
theorem dX2_readStreet_13 : decode cX2_readStreet 13 = .ok (.iconst 0, 1) := dc0 (j := 13) sX2_readStreet_0 rfl op_3
theorem dX2_readStreet_14 : decode cX2_readStreet 14 = .ok (.putfield 19, 3) := dcB (j := 14) (f := Instr.putfield) sX2_readStreet_0 rfl op_181 rfl
theorem dX2_readStreet_17 : decode cX2_readStreet 17 = .ok (.aload_n 0, 1) := dc0 (j := 17) sX2_readStreet_0 rfl op_42
theorem dX2_readStreet_18 : decode cX2_readStreet 18 = .ok (.iconst 0, 1) := dc0 (j := 18) sX2_readStreet_0 rfl op_3
theorem dX2_readStreet_19 : decode cX2_readStreet 19 = .ok (.putfield 31, 3) := dcB (j := 19) (f := Instr.putfield) sX2_readStreet_0 rfl op_181 rfl
theorem dX2_readStreet_22 : decode cX2_readStreet 22 = .ok (.aload_n 0, 1) := dc0 (j := 22) sX2_readStreet_0 rfl op_42
theorem dX2_readStreet_23 : decode cX2_readStreet 23 = .ok (.iconst 0, 1) := dc0 (j := 23) sX2_readStreet_0 rfl op_3
theorem dX2_readStreet_24 : decode cX2_readStreet 24 = .ok (.putfield 34, 3) := dcB (j := 24) (f := Instr.putfield) sX2_readStreet_0 rfl op_181 rfl
theorem dX2_readStreet_27 : decode cX2_readStreet 27 = .ok (.aload_n 0, 1) := dc0 (j := 27) sX2_readStreet_0 rfl op_42
theorem dX2_readStreet_28 : decode cX2_readStreet 28 = .ok (.iconst (-1), 1) := dc0 (j := 28) sX2_readStreet_0 rfl op_2
theorem dX2_readStreet_29 : decode cX2_readStreet 29 = .ok (.putfield 9, 3) := dcB (j := 29) (f := Instr.putfield) sX2_readStreet_0 rfl op_181 rfl
theorem dX2_readStreet_32 : decode cX2_readStreet 32 = .ok (.aload_n 2, 1) := dc0 (j := 32) sX2_readStreet_0 rfl op_44
theorem dX2_readStreet_33 : decode cX2_readStreet 33 = .ok (.invokevirtual 37, 3) := dcB (j := 33) (f := Instr.invokevirtual) sX2_readStreet_0 rfl op_182 rfl
theorem sX2_readStreet_36 : sgm cX2_readStreet 36 [44, 180, 0, 42, 2, 184, 0, 46, 42, 182, 0, 52, 3, 62, 29, 42, 180, 0, 28, 163, 0, 95, 42, 180, 0, 34, 154, 0, 88, 42, 180, 0, 55, 8] := by decide +kernel
theorem dX2_readStreet_36 : decode cX2_readStreet 36 = .ok (.aload_n 2, 1) := dc0 (j := 0) sX2_readStreet_36 rfl op_44
theorem dX2_readStreet_37 : decode cX2_readStreet 37 = .ok (.getfield 42, 3) := dcB (j := 1) (f := Instr.getfield) sX2_readStreet_36 rfl op_180 rfl
theorem dX2_readStreet_40 : decode cX2_readStreet 40 = .ok (.iconst (-1), 1) := dc0 (j := 4) sX2_readStreet_36 rfl op_2
theorem dX2_readStreet_41 : decode cX2_readStreet 41 = .ok (.invokestatic 46, 3) := dcB (j := 5) (f := Instr.invokestatic) sX2_readStreet_36 rfl op_184 rfl
theorem dX2_readStreet_44 : decode cX2_readStreet 44 = .ok (.aload_n 0, 1) := dc0 (j := 8) sX2_readStreet_36 rfl op_42
theorem dX2_readStreet_45 : decode cX2_readStreet 45 = .ok (.invokevirtual 52, 3) := dcB (j := 9) (f := Instr.invokevirtual) sX2_readStreet_36 rfl op_182 rfl
theorem dX2_readStreet_48 : decode cX2_readStreet 48 = .ok (.iconst 0, 1) := dc0 (j := 12) sX2_readStreet_36 rfl op_3
theorem dX2_readStreet_49 : decode cX2_readStreet 49 = .ok (.istore_n 3, 1) := dc0 (j := 13) sX2_readStreet_36 rfl op_62
theorem dX2_readStreet_50 : decode cX2_readStreet 50 = .ok (.iload_n 3, 1) := dc0 (j := 14) sX2_readStreet_36 rfl op_29
theorem dX2_readStreet_51 : decode cX2_readStreet 51 = .ok (.aload_n 0, 1) := dc0 (j := 15) sX2_readStreet_36 rfl op_42
theorem dX2_readStreet_52 : decode cX2_readStreet 52 = .ok (.getfield 28, 3) := dcB (j := 16) (f := Instr.getfield) sX2_readStreet_36 rfl op_180 rfl
theorem dX2_readStreet_55 : decode cX2_readStreet 55 = .ok (.if_icmp .gt 95, 3) := dcTp (j := 19) (v := 95) (f := Instr.if_icmp .gt) sX2_readStreet_36 rfl op_163 rfl rfl
theorem dX2_readStreet_58 : decode cX2_readStreet 58 = .ok (.aload_n 0, 1) := dc0 (j := 22) sX2_readStreet_36 rfl op_42
theorem dX2_readStreet_59 : decode cX2_readStreet 59 = .ok (.getfield 34, 3) := dcB (j := 23) (f := Instr.getfield) sX2_readStreet_36 rfl op_180 rfl
theorem dX2_readStreet_62 : decode cX2_readStreet 62 = .ok (.ifCond .ne 88, 3) := dcTp (j := 26) (v := 88) (f := Instr.ifCond .ne) sX2_readStreet_36 rfl op_154 rfl rfl
theorem dX2_readStreet_65 : decode cX2_readStreet 65 = .ok (.aload_n 0, 1) := dc0 (j := 29) sX2_readStreet_36 rfl op_42
theorem dX2_readStreet_66 : decode cX2_readStreet 66 = .ok (.getfield 55, 3) := dcB (j := 30) (f := Instr.getfield) sX2_readStreet_36 rfl op_180 rfl
theorem dX2_readStreet_69 : decode cX2_readStreet 69 = .ok (.iconst 5, 1) := dc0 (j := 33) sX2_readStreet_36 rfl op_8
theorem sX2_readStreet_70 : sgm cX2_readStreet 70 [159, 0, 80, 42, 18, 58, 182, 0, 60, 153, 0, 11, 42, 44, 182, 0, 64, 167, 0, 52, 42, 18, 68, 182, 0, 60, 153, 0, 11, 42, 44, 182, 0, 70] := by decide +kernel
theorem dX2_readStreet_70 : decode cX2_readStreet 70 = .ok (.if_icmp .eq 80, 3) := dcTp (j := 0) (v := 80) (f := Instr.if_icmp .eq) sX2_readStreet_70 rfl op_159 rfl rfl
theorem dX2_readStreet_73 : decode cX2_readStreet 73 = .ok (.aload_n 0, 1) := dc0 (j := 3) sX2_readStreet_70 rfl op_42
theorem dX2_readStreet_74 : decode cX2_readStreet 74 = .ok (.ldc 58, 2) := dcA (j := 4) (f := Instr.ldc) sX2_readStreet_70 rfl op_18
theorem dX2_readStreet_76 : decode cX2_readStreet 76 = .ok (.invokevirtual 60, 3) := dcB (j := 6) (f := Instr.invokevirtual) sX2_readStreet_70 rfl op_182 rfl
theorem dX2_readStreet_79 : decode cX2_readStreet 79 = .ok (.ifCond .eq 11, 3) := dcTp (j := 9) (v := 11) (f := Instr.ifCond .eq) sX2_readStreet_70 rfl op_153 rfl rfl
theorem dX2_readStreet_82 : decode cX2_readStreet 82 = .ok (.aload_n 0, 1) := dc0 (j := 12) sX2_readStreet_70 rfl op_42
theorem dX2_readStreet_83 : decode cX2_readStreet 83 = .ok (.aload_n 2, 1) := dc0 (j := 13) sX2_readStreet_70 rfl op_44
theorem dX2_readStreet_84 : decode cX2_readStreet 84 = .ok (.invokevirtual 64, 3) := dcB (j := 14) (f := Instr.invokevirtual) sX2_readStreet_70 rfl op_182 rfl
theorem dX2_readStreet_87 : decode cX2_readStreet 87 = .ok (.goto 52, 3) := dcTp (j := 17) (v := 52) (f := Instr.goto) sX2_readStreet_70 rfl op_167 rfl rfl
theorem dX2_readStreet_90 : decode cX2_readStreet 90 = .ok (.aload_n 0, 1) := dc0 (j := 20) sX2_readStreet_70 rfl op_42
theorem dX2_readStreet_91 : decode cX2_readStreet 91 = .ok (.ldc 68, 2) := dcA (j := 21) (f := Instr.ldc) sX2_readStreet_70 rfl op_18
theorem dX2_readStreet_93 : decode cX2_readStreet 93 = .ok (.invokevirtual 60, 3) := dcB (j := 23) (f := Instr.invokevirtual) sX2_readStreet_70 rfl op_182 rfl
theorem dX2_readStreet_96 : decode cX2_readStreet 96 = .ok (.ifCond .eq 11, 3) := dcTp (j := 26) (v := 11) (f := Instr.ifCond .eq) sX2_readStreet_70 rfl op_153 rfl rfl
theorem dX2_readStreet_99 : decode cX2_readStreet 99 = .ok (.aload_n 0, 1) := dc0 (j := 29) sX2_readStreet_70 rfl op_42
theorem dX2_readStreet_100 : decode cX2_readStreet 100 = .ok (.aload_n 2, 1) := dc0 (j := 30) sX2_readStreet_70 rfl op_44
theorem dX2_readStreet_101 : decode cX2_readStreet 101 = .ok (.invokevirtual 70, 3) := dcB (j := 31) (f := Instr.invokevirtual) sX2_readStreet_70 rfl op_182 rfl
theorem sX2_readStreet_104 : sgm cX2_readStreet 104 [167, 0, 35, 42, 18, 73, 182, 0, 60, 153, 0, 21, 42, 182, 0, 52, 44, 42, 3, 16, 20, 182, 0, 75, 181, 0, 78, 167, 0, 8, 42, 5, 182, 0, 81, 42] := by decide +kernel
theorem dX2_readStreet_104 : decode cX2_readStreet 104 = .ok (.goto 35, 3) := dcTp (j := 0) (v := 35) (f := Instr.goto) sX2_readStreet_104 rfl op_167 rfl rfl
theorem dX2_readStreet_107 : decode cX2_readStreet 107 = .ok (.aload_n 0, 1) := dc0 (j := 3) sX2_readStreet_104 rfl op_42
theorem dX2_readStreet_108 : decode cX2_readStreet 108 = .ok (.ldc 73, 2) := dcA (j := 4) (f := Instr.ldc) sX2_readStreet_104 rfl op_18
theorem dX2_readStreet_110 : decode cX2_readStreet 110 = .ok (.invokevirtual 60, 3) := dcB (j := 6) (f := Instr.invokevirtual) sX2_readStreet_104 rfl op_182 rfl
theorem dX2_readStreet_113 : decode cX2_readStreet 113 = .ok (.ifCond .eq 21, 3) := dcTp (j := 9) (v := 21) (f := Instr.ifCond .eq) sX2_readStreet_104 rfl op_153 rfl rfl
theorem dX2_readStreet_116 : decode cX2_readStreet 116 = .ok (.aload_n 0, 1) := dc0 (j := 12) sX2_readStreet_104 rfl op_42
theorem dX2_readStreet_117 : decode cX2_readStreet 117 = .ok (.invokevirtual 52, 3) := dcB (j := 13) (f := Instr.invokevirtual) sX2_readStreet_104 rfl op_182 rfl
theorem dX2_readStreet_120 : decode cX2_readStreet 120 = .ok (.aload_n 2, 1) := dc0 (j := 16) sX2_readStreet_104 rfl op_44
theorem dX2_readStreet_121 : decode cX2_readStreet 121 = .ok (.aload_n 0, 1) := dc0 (j := 17) sX2_readStreet_104 rfl op_42
theorem dX2_readStreet_122 : decode cX2_readStreet 122 = .ok (.iconst 0, 1) := dc0 (j := 18) sX2_readStreet_104 rfl op_3
theorem dX2_readStreet_123 : decode cX2_readStreet 123 = .ok (.bipush 20, 2) := dcSp (j := 19) (a := 20) (f := Instr.bipush) sX2_readStreet_104 rfl op_16 rfl
theorem dX2_readStreet_125 : decode cX2_readStreet 125 = .ok (.invokevirtual 75, 3) := dcB (j := 21) (f := Instr.invokevirtual) sX2_readStreet_104 rfl op_182 rfl
theorem dX2_readStreet_128 : decode cX2_readStreet 128 = .ok (.putfield 78, 3) := dcB (j := 24) (f := Instr.putfield) sX2_readStreet_104 rfl op_181 rfl
theorem dX2_readStreet_131 : decode cX2_readStreet 131 = .ok (.goto 8, 3) := dcTp (j := 27) (v := 8) (f := Instr.goto) sX2_readStreet_104 rfl op_167 rfl rfl
theorem dX2_readStreet_134 : decode cX2_readStreet 134 = .ok (.aload_n 0, 1) := dc0 (j := 30) sX2_readStreet_104 rfl op_42
theorem dX2_readStreet_135 : decode cX2_readStreet 135 = .ok (.iconst 2, 1) := dc0 (j := 31) sX2_readStreet_104 rfl op_5
theorem dX2_readStreet_136 : decode cX2_readStreet 136 = .ok (.invokevirtual 81, 3) := dcB (j := 32) (f := Instr.invokevirtual) sX2_readStreet_104 rfl op_182 rfl
theorem dX2_readStreet_139 : decode cX2_readStreet 139 = .ok (.aload_n 0, 1) := dc0 (j := 35) sX2_readStreet_104 rfl op_42
theorem sX2_readStreet_140 : sgm cX2_readStreet 140 [44, 182, 0, 85, 132, 3, 1, 167, 255, 159, 44, 182, 0, 88, 177] := by decide +kernel
theorem dX2_readStreet_140 : decode cX2_readStreet 140 = .ok (.aload_n 2, 1) := dc0 (j := 0) sX2_readStreet_140 rfl op_44
theorem dX2_readStreet_141 : decode cX2_readStreet 141 = .ok (.invokevirtual 85, 3) := dcB (j := 1) (f := Instr.invokevirtual) sX2_readStreet_140 rfl op_182 rfl
theorem dX2_readStreet_144 : decode cX2_readStreet 144 = .ok (.iinc 3 1, 3) := dcIp (j := 4) sX2_readStreet_140 rfl op_132 rfl
theorem dX2_readStreet_147 : decode cX2_readStreet 147 = .ok (.goto (-97), 3) := dcTn (j := 7) (v := 97) (f := Instr.goto) sX2_readStreet_140 rfl op_167 rfl rfl rfl
theorem dX2_readStreet_150 : decode cX2_readStreet 150 = .ok (.aload_n 2, 1) := dc0 (j := 10) sX2_readStreet_140 rfl op_44
theorem dX2_readStreet_151 : decode cX2_readStreet 151 = .ok (.invokevirtual 88, 3) := dcB (j := 11) (f := Instr.invokevirtual) sX2_readStreet_140 rfl op_182 rfl
theorem dX2_readStreet_154 : decode cX2_readStreet 154 = .ok (.return_, 1) := dc0 (j := 14) sX2_readStreet_140 rfl op_177
theorem sX2_endLine_0 : sgm cX2_endLine 0 [42, 180, 0, 55, 6, 159, 0, 8, 42, 5, 182, 0, 81, 42, 180, 0, 34, 154, 0, 17, 43, 89, 180, 0, 91, 4, 96, 181, 0, 91, 42, 182, 0, 52, 177] := by decide +kernel
theorem dX2_endLine_0 : decode cX2_endLine 0 = .ok (.aload_n 0, 1) := dc0 (j := 0) sX2_endLine_0 rfl op_42
theorem dX2_endLine_1 : decode cX2_endLine 1 = .ok (.getfield 55, 3) := dcB (j := 1) (f := Instr.getfield) sX2_endLine_0 rfl op_180 rfl
theorem dX2_endLine_4 : decode cX2_endLine 4 = .ok (.iconst 3, 1) := dc0 (j := 4) sX2_endLine_0 rfl op_6
theorem dX2_endLine_5 : decode cX2_endLine 5 = .ok (.if_icmp .eq 8, 3) := dcTp (j := 5) (v := 8) (f := Instr.if_icmp .eq) sX2_endLine_0 rfl op_159 rfl rfl
theorem dX2_endLine_8 : decode cX2_endLine 8 = .ok (.aload_n 0, 1) := dc0 (j := 8) sX2_endLine_0 rfl op_42
theorem dX2_endLine_9 : decode cX2_endLine 9 = .ok (.iconst 2, 1) := dc0 (j := 9) sX2_endLine_0 rfl op_5
theorem dX2_endLine_10 : decode cX2_endLine 10 = .ok (.invokevirtual 81, 3) := dcB (j := 10) (f := Instr.invokevirtual) sX2_endLine_0 rfl op_182 rfl
theorem dX2_endLine_13 : decode cX2_endLine 13 = .ok (.aload_n 0, 1) := dc0 (j := 13) sX2_endLine_0 rfl op_42
theorem dX2_endLine_14 : decode cX2_endLine 14 = .ok (.getfield 34, 3) := dcB (j := 14) (f := Instr.getfield) sX2_endLine_0 rfl op_180 rfl
theorem dX2_endLine_17 : decode cX2_endLine 17 = .ok (.ifCond .ne 17, 3) := dcTp (j := 17) (v := 17) (f := Instr.ifCond .ne) sX2_endLine_0 rfl op_154 rfl rfl
theorem dX2_endLine_20 : decode cX2_endLine 20 = .ok (.aload_n 1, 1) := dc0 (j := 20) sX2_endLine_0 rfl op_43
theorem dX2_endLine_21 : decode cX2_endLine 21 = .ok (.dup, 1) := dc0 (j := 21) sX2_endLine_0 rfl op_89
theorem dX2_endLine_22 : decode cX2_endLine 22 = .ok (.getfield 91, 3) := dcB (j := 22) (f := Instr.getfield) sX2_endLine_0 rfl op_180 rfl
theorem dX2_endLine_25 : decode cX2_endLine 25 = .ok (.iconst 1, 1) := dc0 (j := 25) sX2_endLine_0 rfl op_4
theorem dX2_endLine_26 : decode cX2_endLine 26 = .ok (.iadd, 1) := dc0 (j := 26) sX2_endLine_0 rfl op_96
theorem dX2_endLine_27 : decode cX2_endLine 27 = .ok (.putfield 91, 3) := dcB (j := 27) (f := Instr.putfield) sX2_endLine_0 rfl op_181 rfl
theorem dX2_endLine_30 : decode cX2_endLine 30 = .ok (.aload_n 0, 1) := dc0 (j := 30) sX2_endLine_0 rfl op_42
theorem dX2_endLine_31 : decode cX2_endLine 31 = .ok (.invokevirtual 52, 3) := dcB (j := 31) (f := Instr.invokevirtual) sX2_endLine_0 rfl op_182 rfl
theorem dX2_endLine_34 : decode cX2_endLine 34 = .ok (.return_, 1) := dc0 (j := 34) sX2_endLine_0 rfl op_177
theorem sX2_readSmith_0 : sgm cX2_readSmith 0 [43, 180, 0, 94, 61, 28, 16, 10, 161, 0, 9, 42, 7, 182, 0, 81, 177, 42, 182, 0, 52, 43, 180, 0, 97, 28, 42, 3, 16, 60, 182, 0, 75, 79, 43] := by decide +kernel
theorem dX2_readSmith_0 : decode cX2_readSmith 0 = .ok (.aload_n 1, 1) := dc0 (j := 0) sX2_readSmith_0 rfl op_43
theorem dX2_readSmith_1 : decode cX2_readSmith 1 = .ok (.getfield 94, 3) := dcB (j := 1) (f := Instr.getfield) sX2_readSmith_0 rfl op_180 rfl
theorem dX2_readSmith_4 : decode cX2_readSmith 4 = .ok (.istore_n 2, 1) := dc0 (j := 4) sX2_readSmith_0 rfl op_61
theorem dX2_readSmith_5 : decode cX2_readSmith 5 = .ok (.iload_n 2, 1) := dc0 (j := 5) sX2_readSmith_0 rfl op_28
theorem dX2_readSmith_6 : decode cX2_readSmith 6 = .ok (.bipush 10, 2) := dcSp (j := 6) (a := 10) (f := Instr.bipush) sX2_readSmith_0 rfl op_16 rfl
theorem dX2_readSmith_8 : decode cX2_readSmith 8 = .ok (.if_icmp .lt 9, 3) := dcTp (j := 8) (v := 9) (f := Instr.if_icmp .lt) sX2_readSmith_0 rfl op_161 rfl rfl
theorem dX2_readSmith_11 : decode cX2_readSmith 11 = .ok (.aload_n 0, 1) := dc0 (j := 11) sX2_readSmith_0 rfl op_42
theorem dX2_readSmith_12 : decode cX2_readSmith 12 = .ok (.iconst 4, 1) := dc0 (j := 12) sX2_readSmith_0 rfl op_7
theorem dX2_readSmith_13 : decode cX2_readSmith 13 = .ok (.invokevirtual 81, 3) := dcB (j := 13) (f := Instr.invokevirtual) sX2_readSmith_0 rfl op_182 rfl
theorem dX2_readSmith_16 : decode cX2_readSmith 16 = .ok (.return_, 1) := dc0 (j := 16) sX2_readSmith_0 rfl op_177
theorem dX2_readSmith_17 : decode cX2_readSmith 17 = .ok (.aload_n 0, 1) := dc0 (j := 17) sX2_readSmith_0 rfl op_42
theorem dX2_readSmith_18 : decode cX2_readSmith 18 = .ok (.invokevirtual 52, 3) := dcB (j := 18) (f := Instr.invokevirtual) sX2_readSmith_0 rfl op_182 rfl
theorem dX2_readSmith_21 : decode cX2_readSmith 21 = .ok (.aload_n 1, 1) := dc0 (j := 21) sX2_readSmith_0 rfl op_43
theorem dX2_readSmith_22 : decode cX2_readSmith 22 = .ok (.getfield 97, 3) := dcB (j := 22) (f := Instr.getfield) sX2_readSmith_0 rfl op_180 rfl
theorem dX2_readSmith_25 : decode cX2_readSmith 25 = .ok (.iload_n 2, 1) := dc0 (j := 25) sX2_readSmith_0 rfl op_28
theorem dX2_readSmith_26 : decode cX2_readSmith 26 = .ok (.aload_n 0, 1) := dc0 (j := 26) sX2_readSmith_0 rfl op_42
theorem dX2_readSmith_27 : decode cX2_readSmith 27 = .ok (.iconst 0, 1) := dc0 (j := 27) sX2_readSmith_0 rfl op_3
theorem dX2_readSmith_28 : decode cX2_readSmith 28 = .ok (.bipush 60, 2) := dcSp (j := 28) (a := 60) (f := Instr.bipush) sX2_readSmith_0 rfl op_16 rfl
theorem dX2_readSmith_30 : decode cX2_readSmith 30 = .ok (.invokevirtual 75, 3) := dcB (j := 30) (f := Instr.invokevirtual) sX2_readSmith_0 rfl op_182 rfl
theorem dX2_readSmith_33 : decode cX2_readSmith 33 = .ok (.iastore, 1) := dc0 (j := 33) sX2_readSmith_0 rfl op_79
theorem dX2_readSmith_34 : decode cX2_readSmith 34 = .ok (.aload_n 1, 1) := dc0 (j := 34) sX2_readSmith_0 rfl op_43
theorem sX2_readSmith_35 : sgm cX2_readSmith 35 [180, 0, 100, 28, 42, 18, 103, 3, 16, 30, 8, 182, 0, 104, 79, 43, 180, 0, 108, 28, 42, 18, 111, 3, 17, 0, 200, 3, 182, 0, 104, 79, 43, 180, 0, 112] := by decide +kernel
theorem dX2_readSmith_35 : decode cX2_readSmith 35 = .ok (.getfield 100, 3) := dcB (j := 0) (f := Instr.getfield) sX2_readSmith_35 rfl op_180 rfl
theorem dX2_readSmith_38 : decode cX2_readSmith 38 = .ok (.iload_n 2, 1) := dc0 (j := 3) sX2_readSmith_35 rfl op_28
theorem dX2_readSmith_39 : decode cX2_readSmith 39 = .ok (.aload_n 0, 1) := dc0 (j := 4) sX2_readSmith_35 rfl op_42
theorem dX2_readSmith_40 : decode cX2_readSmith 40 = .ok (.ldc 103, 2) := dcA (j := 5) (f := Instr.ldc) sX2_readSmith_35 rfl op_18
theorem dX2_readSmith_42 : decode cX2_readSmith 42 = .ok (.iconst 0, 1) := dc0 (j := 7) sX2_readSmith_35 rfl op_3
theorem dX2_readSmith_43 : decode cX2_readSmith 43 = .ok (.bipush 30, 2) := dcSp (j := 8) (a := 30) (f := Instr.bipush) sX2_readSmith_35 rfl op_16 rfl
theorem dX2_readSmith_45 : decode cX2_readSmith 45 = .ok (.iconst 5, 1) := dc0 (j := 10) sX2_readSmith_35 rfl op_8
theorem dX2_readSmith_46 : decode cX2_readSmith 46 = .ok (.invokevirtual 104, 3) := dcB (j := 11) (f := Instr.invokevirtual) sX2_readSmith_35 rfl op_182 rfl
theorem dX2_readSmith_49 : decode cX2_readSmith 49 = .ok (.iastore, 1) := dc0 (j := 14) sX2_readSmith_35 rfl op_79
theorem dX2_readSmith_50 : decode cX2_readSmith 50 = .ok (.aload_n 1, 1) := dc0 (j := 15) sX2_readSmith_35 rfl op_43
theorem dX2_readSmith_51 : decode cX2_readSmith 51 = .ok (.getfield 108, 3) := dcB (j := 16) (f := Instr.getfield) sX2_readSmith_35 rfl op_180 rfl
theorem dX2_readSmith_54 : decode cX2_readSmith 54 = .ok (.iload_n 2, 1) := dc0 (j := 19) sX2_readSmith_35 rfl op_28
theorem dX2_readSmith_55 : decode cX2_readSmith 55 = .ok (.aload_n 0, 1) := dc0 (j := 20) sX2_readSmith_35 rfl op_42
theorem dX2_readSmith_56 : decode cX2_readSmith 56 = .ok (.ldc 111, 2) := dcA (j := 21) (f := Instr.ldc) sX2_readSmith_35 rfl op_18
theorem dX2_readSmith_58 : decode cX2_readSmith 58 = .ok (.iconst 0, 1) := dc0 (j := 23) sX2_readSmith_35 rfl op_3
theorem dX2_readSmith_59 : decode cX2_readSmith 59 = .ok (.sipush 200, 3) := dcTp (j := 24) (v := 200) (f := Instr.sipush) sX2_readSmith_35 rfl op_17 rfl rfl
theorem dX2_readSmith_62 : decode cX2_readSmith 62 = .ok (.iconst 0, 1) := dc0 (j := 27) sX2_readSmith_35 rfl op_3
theorem dX2_readSmith_63 : decode cX2_readSmith 63 = .ok (.invokevirtual 104, 3) := dcB (j := 28) (f := Instr.invokevirtual) sX2_readSmith_35 rfl op_182 rfl
theorem dX2_readSmith_66 : decode cX2_readSmith 66 = .ok (.iastore, 1) := dc0 (j := 31) sX2_readSmith_35 rfl op_79
theorem dX2_readSmith_67 : decode cX2_readSmith 67 = .ok (.aload_n 1, 1) := dc0 (j := 32) sX2_readSmith_35 rfl op_43
theorem dX2_readSmith_68 : decode cX2_readSmith 68 = .ok (.getfield 112, 3) := dcB (j := 33) (f := Instr.getfield) sX2_readSmith_35 rfl op_180 rfl
theorem sX2_readSmith_71 : sgm cX2_readSmith 71 [28, 42, 18, 115, 3, 17, 0, 200, 16, 20, 182, 0, 104, 79, 43, 180, 0, 116, 28, 42, 18, 119, 43, 180, 0, 112, 28, 46, 17, 0, 200, 16, 100, 43] := by decide +kernel
theorem dX2_readSmith_71 : decode cX2_readSmith 71 = .ok (.iload_n 2, 1) := dc0 (j := 0) sX2_readSmith_71 rfl op_28
theorem dX2_readSmith_72 : decode cX2_readSmith 72 = .ok (.aload_n 0, 1) := dc0 (j := 1) sX2_readSmith_71 rfl op_42
theorem dX2_readSmith_73 : decode cX2_readSmith 73 = .ok (.ldc 115, 2) := dcA (j := 2) (f := Instr.ldc) sX2_readSmith_71 rfl op_18
theorem dX2_readSmith_75 : decode cX2_readSmith 75 = .ok (.iconst 0, 1) := dc0 (j := 4) sX2_readSmith_71 rfl op_3
theorem dX2_readSmith_76 : decode cX2_readSmith 76 = .ok (.sipush 200, 3) := dcTp (j := 5) (v := 200) (f := Instr.sipush) sX2_readSmith_71 rfl op_17 rfl rfl
theorem dX2_readSmith_79 : decode cX2_readSmith 79 = .ok (.bipush 20, 2) := dcSp (j := 8) (a := 20) (f := Instr.bipush) sX2_readSmith_71 rfl op_16 rfl
theorem dX2_readSmith_81 : decode cX2_readSmith 81 = .ok (.invokevirtual 104, 3) := dcB (j := 10) (f := Instr.invokevirtual) sX2_readSmith_71 rfl op_182 rfl
theorem dX2_readSmith_84 : decode cX2_readSmith 84 = .ok (.iastore, 1) := dc0 (j := 13) sX2_readSmith_71 rfl op_79
theorem dX2_readSmith_85 : decode cX2_readSmith 85 = .ok (.aload_n 1, 1) := dc0 (j := 14) sX2_readSmith_71 rfl op_43
theorem dX2_readSmith_86 : decode cX2_readSmith 86 = .ok (.getfield 116, 3) := dcB (j := 15) (f := Instr.getfield) sX2_readSmith_71 rfl op_180 rfl
theorem dX2_readSmith_89 : decode cX2_readSmith 89 = .ok (.iload_n 2, 1) := dc0 (j := 18) sX2_readSmith_71 rfl op_28
theorem dX2_readSmith_90 : decode cX2_readSmith 90 = .ok (.aload_n 0, 1) := dc0 (j := 19) sX2_readSmith_71 rfl op_42
theorem dX2_readSmith_91 : decode cX2_readSmith 91 = .ok (.ldc 119, 2) := dcA (j := 20) (f := Instr.ldc) sX2_readSmith_71 rfl op_18
theorem dX2_readSmith_93 : decode cX2_readSmith 93 = .ok (.aload_n 1, 1) := dc0 (j := 22) sX2_readSmith_71 rfl op_43
theorem dX2_readSmith_94 : decode cX2_readSmith 94 = .ok (.getfield 112, 3) := dcB (j := 23) (f := Instr.getfield) sX2_readSmith_71 rfl op_180 rfl
theorem dX2_readSmith_97 : decode cX2_readSmith 97 = .ok (.iload_n 2, 1) := dc0 (j := 26) sX2_readSmith_71 rfl op_28
theorem dX2_readSmith_98 : decode cX2_readSmith 98 = .ok (.iaload, 1) := dc0 (j := 27) sX2_readSmith_71 rfl op_46
theorem dX2_readSmith_99 : decode cX2_readSmith 99 = .ok (.sipush 200, 3) := dcTp (j := 28) (v := 200) (f := Instr.sipush) sX2_readSmith_71 rfl op_17 rfl rfl
theorem dX2_readSmith_102 : decode cX2_readSmith 102 = .ok (.bipush 100, 2) := dcSp (j := 31) (a := 100) (f := Instr.bipush) sX2_readSmith_71 rfl op_16 rfl
theorem dX2_readSmith_104 : decode cX2_readSmith 104 = .ok (.aload_n 1, 1) := dc0 (j := 33) sX2_readSmith_71 rfl op_43
theorem sX2_readSmith_105 : sgm cX2_readSmith 105 [180, 0, 112, 28, 46, 184, 0, 120, 182, 0, 104, 79, 43, 28, 42, 18, 123, 3, 16, 20, 6, 182, 0, 104, 182, 0, 125, 43, 89, 180, 0, 94, 4, 96] := by decide +kernel
theorem dX2_readSmith_105 : decode cX2_readSmith 105 = .ok (.getfield 112, 3) := dcB (j := 0) (f := Instr.getfield) sX2_readSmith_105 rfl op_180 rfl
theorem dX2_readSmith_108 : decode cX2_readSmith 108 = .ok (.iload_n 2, 1) := dc0 (j := 3) sX2_readSmith_105 rfl op_28
theorem dX2_readSmith_109 : decode cX2_readSmith 109 = .ok (.iaload, 1) := dc0 (j := 4) sX2_readSmith_105 rfl op_46
theorem dX2_readSmith_110 : decode cX2_readSmith 110 = .ok (.invokestatic 120, 3) := dcB (j := 5) (f := Instr.invokestatic) sX2_readSmith_105 rfl op_184 rfl
theorem dX2_readSmith_113 : decode cX2_readSmith 113 = .ok (.invokevirtual 104, 3) := dcB (j := 8) (f := Instr.invokevirtual) sX2_readSmith_105 rfl op_182 rfl
theorem dX2_readSmith_116 : decode cX2_readSmith 116 = .ok (.iastore, 1) := dc0 (j := 11) sX2_readSmith_105 rfl op_79
theorem dX2_readSmith_117 : decode cX2_readSmith 117 = .ok (.aload_n 1, 1) := dc0 (j := 12) sX2_readSmith_105 rfl op_43
theorem dX2_readSmith_118 : decode cX2_readSmith 118 = .ok (.iload_n 2, 1) := dc0 (j := 13) sX2_readSmith_105 rfl op_28
theorem dX2_readSmith_119 : decode cX2_readSmith 119 = .ok (.aload_n 0, 1) := dc0 (j := 14) sX2_readSmith_105 rfl op_42
theorem dX2_readSmith_120 : decode cX2_readSmith 120 = .ok (.ldc 123, 2) := dcA (j := 15) (f := Instr.ldc) sX2_readSmith_105 rfl op_18
theorem dX2_readSmith_122 : decode cX2_readSmith 122 = .ok (.iconst 0, 1) := dc0 (j := 17) sX2_readSmith_105 rfl op_3
theorem dX2_readSmith_123 : decode cX2_readSmith 123 = .ok (.bipush 20, 2) := dcSp (j := 18) (a := 20) (f := Instr.bipush) sX2_readSmith_105 rfl op_16 rfl
theorem dX2_readSmith_125 : decode cX2_readSmith 125 = .ok (.iconst 3, 1) := dc0 (j := 20) sX2_readSmith_105 rfl op_6
theorem dX2_readSmith_126 : decode cX2_readSmith 126 = .ok (.invokevirtual 104, 3) := dcB (j := 21) (f := Instr.invokevirtual) sX2_readSmith_105 rfl op_182 rfl
theorem dX2_readSmith_129 : decode cX2_readSmith 129 = .ok (.invokevirtual 125, 3) := dcB (j := 24) (f := Instr.invokevirtual) sX2_readSmith_105 rfl op_182 rfl
theorem dX2_readSmith_132 : decode cX2_readSmith 132 = .ok (.aload_n 1, 1) := dc0 (j := 27) sX2_readSmith_105 rfl op_43
theorem dX2_readSmith_133 : decode cX2_readSmith 133 = .ok (.dup, 1) := dc0 (j := 28) sX2_readSmith_105 rfl op_89
theorem dX2_readSmith_134 : decode cX2_readSmith 134 = .ok (.getfield 94, 3) := dcB (j := 29) (f := Instr.getfield) sX2_readSmith_105 rfl op_180 rfl
theorem dX2_readSmith_137 : decode cX2_readSmith 137 = .ok (.iconst 1, 1) := dc0 (j := 32) sX2_readSmith_105 rfl op_4
theorem dX2_readSmith_138 : decode cX2_readSmith 138 = .ok (.iadd, 1) := dc0 (j := 33) sX2_readSmith_105 rfl op_96
theorem sX2_readSmith_139 : sgm cX2_readSmith 139 [181, 0, 94, 177] := by decide +kernel
theorem dX2_readSmith_139 : decode cX2_readSmith 139 = .ok (.putfield 94, 3) := dcB (j := 0) (f := Instr.putfield) sX2_readSmith_139 rfl op_181 rfl
theorem dX2_readSmith_142 : decode cX2_readSmith 142 = .ok (.return_, 1) := dc0 (j := 3) sX2_readSmith_139 rfl op_177
theorem sX2_readBlows_0 : sgm cX2_readBlows 0 [42, 182, 0, 52, 42, 3, 43, 180, 0, 94, 4, 100, 182, 0, 75, 61, 42, 3, 43, 180, 0, 94, 4, 100, 182, 0, 75, 62, 42, 180, 0, 34, 154, 0, 10, 43] := by decide +kernel
theorem dX2_readBlows_0 : decode cX2_readBlows 0 = .ok (.aload_n 0, 1) := dc0 (j := 0) sX2_readBlows_0 rfl op_42
theorem dX2_readBlows_1 : decode cX2_readBlows 1 = .ok (.invokevirtual 52, 3) := dcB (j := 1) (f := Instr.invokevirtual) sX2_readBlows_0 rfl op_182 rfl
theorem dX2_readBlows_4 : decode cX2_readBlows 4 = .ok (.aload_n 0, 1) := dc0 (j := 4) sX2_readBlows_0 rfl op_42
theorem dX2_readBlows_5 : decode cX2_readBlows 5 = .ok (.iconst 0, 1) := dc0 (j := 5) sX2_readBlows_0 rfl op_3
theorem dX2_readBlows_6 : decode cX2_readBlows 6 = .ok (.aload_n 1, 1) := dc0 (j := 6) sX2_readBlows_0 rfl op_43
theorem dX2_readBlows_7 : decode cX2_readBlows 7 = .ok (.getfield 94, 3) := dcB (j := 7) (f := Instr.getfield) sX2_readBlows_0 rfl op_180 rfl
theorem dX2_readBlows_10 : decode cX2_readBlows 10 = .ok (.iconst 1, 1) := dc0 (j := 10) sX2_readBlows_0 rfl op_4
theorem dX2_readBlows_11 : decode cX2_readBlows 11 = .ok (.isub, 1) := dc0 (j := 11) sX2_readBlows_0 rfl op_100
theorem dX2_readBlows_12 : decode cX2_readBlows 12 = .ok (.invokevirtual 75, 3) := dcB (j := 12) (f := Instr.invokevirtual) sX2_readBlows_0 rfl op_182 rfl
theorem dX2_readBlows_15 : decode cX2_readBlows 15 = .ok (.istore_n 2, 1) := dc0 (j := 15) sX2_readBlows_0 rfl op_61
theorem dX2_readBlows_16 : decode cX2_readBlows 16 = .ok (.aload_n 0, 1) := dc0 (j := 16) sX2_readBlows_0 rfl op_42
theorem dX2_readBlows_17 : decode cX2_readBlows 17 = .ok (.iconst 0, 1) := dc0 (j := 17) sX2_readBlows_0 rfl op_3
theorem dX2_readBlows_18 : decode cX2_readBlows 18 = .ok (.aload_n 1, 1) := dc0 (j := 18) sX2_readBlows_0 rfl op_43
theorem dX2_readBlows_19 : decode cX2_readBlows 19 = .ok (.getfield 94, 3) := dcB (j := 19) (f := Instr.getfield) sX2_readBlows_0 rfl op_180 rfl
theorem dX2_readBlows_22 : decode cX2_readBlows 22 = .ok (.iconst 1, 1) := dc0 (j := 22) sX2_readBlows_0 rfl op_4
theorem dX2_readBlows_23 : decode cX2_readBlows 23 = .ok (.isub, 1) := dc0 (j := 23) sX2_readBlows_0 rfl op_100
theorem dX2_readBlows_24 : decode cX2_readBlows 24 = .ok (.invokevirtual 75, 3) := dcB (j := 24) (f := Instr.invokevirtual) sX2_readBlows_0 rfl op_182 rfl
theorem dX2_readBlows_27 : decode cX2_readBlows 27 = .ok (.istore_n 3, 1) := dc0 (j := 27) sX2_readBlows_0 rfl op_62
theorem dX2_readBlows_28 : decode cX2_readBlows 28 = .ok (.aload_n 0, 1) := dc0 (j := 28) sX2_readBlows_0 rfl op_42
theorem dX2_readBlows_29 : decode cX2_readBlows 29 = .ok (.getfield 34, 3) := dcB (j := 29) (f := Instr.getfield) sX2_readBlows_0 rfl op_180 rfl
theorem dX2_readBlows_32 : decode cX2_readBlows 32 = .ok (.ifCond .ne 10, 3) := dcTp (j := 32) (v := 10) (f := Instr.ifCond .ne) sX2_readBlows_0 rfl op_154 rfl rfl
theorem dX2_readBlows_35 : decode cX2_readBlows 35 = .ok (.aload_n 1, 1) := dc0 (j := 35) sX2_readBlows_0 rfl op_43
theorem sX2_readBlows_36 : sgm cX2_readBlows 36 [180, 0, 42, 28, 29, 79, 177] := by decide +kernel
theorem dX2_readBlows_36 : decode cX2_readBlows 36 = .ok (.getfield 42, 3) := dcB (j := 0) (f := Instr.getfield) sX2_readBlows_36 rfl op_180 rfl
theorem dX2_readBlows_39 : decode cX2_readBlows 39 = .ok (.iload_n 2, 1) := dc0 (j := 3) sX2_readBlows_36 rfl op_28
theorem dX2_readBlows_40 : decode cX2_readBlows 40 = .ok (.iload_n 3, 1) := dc0 (j := 4) sX2_readBlows_36 rfl op_29
theorem dX2_readBlows_41 : decode cX2_readBlows 41 = .ok (.iastore, 1) := dc0 (j := 5) sX2_readBlows_36 rfl op_79
theorem dX2_readBlows_42 : decode cX2_readBlows 42 = .ok (.return_, 1) := dc0 (j := 6) sX2_readBlows_36 rfl op_177
theorem sX2_takeOption_0 : sgm cX2_takeOption 0 [42, 180, 0, 34, 154, 0, 11, 42, 43, 182, 0, 60, 154, 0, 6, 21, 4, 172, 42, 182, 0, 52, 42, 28, 29, 182, 0, 75, 172] := by decide +kernel
theorem dX2_takeOption_0 : decode cX2_takeOption 0 = .ok (.aload_n 0, 1) := dc0 (j := 0) sX2_takeOption_0 rfl op_42
theorem dX2_takeOption_1 : decode cX2_takeOption 1 = .ok (.getfield 34, 3) := dcB (j := 1) (f := Instr.getfield) sX2_takeOption_0 rfl op_180 rfl
theorem dX2_takeOption_4 : decode cX2_takeOption 4 = .ok (.ifCond .ne 11, 3) := dcTp (j := 4) (v := 11) (f := Instr.ifCond .ne) sX2_takeOption_0 rfl op_154 rfl rfl
theorem dX2_takeOption_7 : decode cX2_takeOption 7 = .ok (.aload_n 0, 1) := dc0 (j := 7) sX2_takeOption_0 rfl op_42
theorem dX2_takeOption_8 : decode cX2_takeOption 8 = .ok (.aload_n 1, 1) := dc0 (j := 8) sX2_takeOption_0 rfl op_43
theorem dX2_takeOption_9 : decode cX2_takeOption 9 = .ok (.invokevirtual 60, 3) := dcB (j := 9) (f := Instr.invokevirtual) sX2_takeOption_0 rfl op_182 rfl
theorem dX2_takeOption_12 : decode cX2_takeOption 12 = .ok (.ifCond .ne 6, 3) := dcTp (j := 12) (v := 6) (f := Instr.ifCond .ne) sX2_takeOption_0 rfl op_154 rfl rfl
theorem dX2_takeOption_15 : decode cX2_takeOption 15 = .ok (.iload 4, 2) := dcA (j := 15) (f := Instr.iload) sX2_takeOption_0 rfl op_21
theorem dX2_takeOption_17 : decode cX2_takeOption 17 = .ok (.ireturn, 1) := dc0 (j := 17) sX2_takeOption_0 rfl op_172
theorem dX2_takeOption_18 : decode cX2_takeOption 18 = .ok (.aload_n 0, 1) := dc0 (j := 18) sX2_takeOption_0 rfl op_42
theorem dX2_takeOption_19 : decode cX2_takeOption 19 = .ok (.invokevirtual 52, 3) := dcB (j := 19) (f := Instr.invokevirtual) sX2_takeOption_0 rfl op_182 rfl
theorem dX2_takeOption_22 : decode cX2_takeOption 22 = .ok (.aload_n 0, 1) := dc0 (j := 22) sX2_takeOption_0 rfl op_42
theorem dX2_takeOption_23 : decode cX2_takeOption 23 = .ok (.iload_n 2, 1) := dc0 (j := 23) sX2_takeOption_0 rfl op_28
theorem dX2_takeOption_24 : decode cX2_takeOption 24 = .ok (.iload_n 3, 1) := dc0 (j := 24) sX2_takeOption_0 rfl op_29
theorem dX2_takeOption_25 : decode cX2_takeOption 25 = .ok (.invokevirtual 75, 3) := dcB (j := 25) (f := Instr.invokevirtual) sX2_takeOption_0 rfl op_182 rfl
theorem dX2_takeOption_28 : decode cX2_takeOption 28 = .ok (.ireturn, 1) := dc0 (j := 28) sX2_takeOption_0 rfl op_172
theorem sX2_takeNumber_0 : sgm cX2_takeNumber 0 [3, 62, 42, 180, 0, 129, 54, 4, 42, 180, 0, 55, 5, 160, 0, 34, 21, 4, 42, 180, 0, 31, 162, 0, 25, 16, 10, 29, 104, 42, 180, 0, 15, 21, 4, 51] := by decide +kernel
theorem dX2_takeNumber_0 : decode cX2_takeNumber 0 = .ok (.iconst 0, 1) := dc0 (j := 0) sX2_takeNumber_0 rfl op_3
theorem dX2_takeNumber_1 : decode cX2_takeNumber 1 = .ok (.istore_n 3, 1) := dc0 (j := 1) sX2_takeNumber_0 rfl op_62
theorem dX2_takeNumber_2 : decode cX2_takeNumber 2 = .ok (.aload_n 0, 1) := dc0 (j := 2) sX2_takeNumber_0 rfl op_42
theorem dX2_takeNumber_3 : decode cX2_takeNumber 3 = .ok (.getfield 129, 3) := dcB (j := 3) (f := Instr.getfield) sX2_takeNumber_0 rfl op_180 rfl
theorem dX2_takeNumber_6 : decode cX2_takeNumber 6 = .ok (.istore 4, 2) := dcA (j := 6) (f := Instr.istore) sX2_takeNumber_0 rfl op_54
theorem dX2_takeNumber_8 : decode cX2_takeNumber 8 = .ok (.aload_n 0, 1) := dc0 (j := 8) sX2_takeNumber_0 rfl op_42
theorem dX2_takeNumber_9 : decode cX2_takeNumber 9 = .ok (.getfield 55, 3) := dcB (j := 9) (f := Instr.getfield) sX2_takeNumber_0 rfl op_180 rfl
theorem dX2_takeNumber_12 : decode cX2_takeNumber 12 = .ok (.iconst 2, 1) := dc0 (j := 12) sX2_takeNumber_0 rfl op_5
theorem dX2_takeNumber_13 : decode cX2_takeNumber 13 = .ok (.if_icmp .ne 34, 3) := dcTp (j := 13) (v := 34) (f := Instr.if_icmp .ne) sX2_takeNumber_0 rfl op_160 rfl rfl
theorem dX2_takeNumber_16 : decode cX2_takeNumber 16 = .ok (.iload 4, 2) := dcA (j := 16) (f := Instr.iload) sX2_takeNumber_0 rfl op_21
theorem dX2_takeNumber_18 : decode cX2_takeNumber 18 = .ok (.aload_n 0, 1) := dc0 (j := 18) sX2_takeNumber_0 rfl op_42
theorem dX2_takeNumber_19 : decode cX2_takeNumber 19 = .ok (.getfield 31, 3) := dcB (j := 19) (f := Instr.getfield) sX2_takeNumber_0 rfl op_180 rfl
theorem dX2_takeNumber_22 : decode cX2_takeNumber 22 = .ok (.if_icmp .ge 25, 3) := dcTp (j := 22) (v := 25) (f := Instr.if_icmp .ge) sX2_takeNumber_0 rfl op_162 rfl rfl
theorem dX2_takeNumber_25 : decode cX2_takeNumber 25 = .ok (.bipush 10, 2) := dcSp (j := 25) (a := 10) (f := Instr.bipush) sX2_takeNumber_0 rfl op_16 rfl
theorem dX2_takeNumber_27 : decode cX2_takeNumber 27 = .ok (.iload_n 3, 1) := dc0 (j := 27) sX2_takeNumber_0 rfl op_29
theorem dX2_takeNumber_28 : decode cX2_takeNumber 28 = .ok (.imul, 1) := dc0 (j := 28) sX2_takeNumber_0 rfl op_104
theorem dX2_takeNumber_29 : decode cX2_takeNumber 29 = .ok (.aload_n 0, 1) := dc0 (j := 29) sX2_takeNumber_0 rfl op_42
theorem dX2_takeNumber_30 : decode cX2_takeNumber 30 = .ok (.getfield 15, 3) := dcB (j := 30) (f := Instr.getfield) sX2_takeNumber_0 rfl op_180 rfl
theorem dX2_takeNumber_33 : decode cX2_takeNumber 33 = .ok (.iload 4, 2) := dcA (j := 33) (f := Instr.iload) sX2_takeNumber_0 rfl op_21
theorem dX2_takeNumber_35 : decode cX2_takeNumber 35 = .ok (.baload, 1) := dc0 (j := 35) sX2_takeNumber_0 rfl op_51
theorem sX2_takeNumber_36 : sgm cX2_takeNumber 36 [96, 16, 48, 100, 62, 132, 4, 1, 167, 255, 220, 42, 180, 0, 55, 5, 159, 0, 11, 42, 5, 182, 0, 81, 167, 0, 17, 29, 27, 28, 184, 0, 132, 154, 0, 8] := by decide +kernel
theorem dX2_takeNumber_36 : decode cX2_takeNumber 36 = .ok (.iadd, 1) := dc0 (j := 0) sX2_takeNumber_36 rfl op_96
theorem dX2_takeNumber_37 : decode cX2_takeNumber 37 = .ok (.bipush 48, 2) := dcSp (j := 1) (a := 48) (f := Instr.bipush) sX2_takeNumber_36 rfl op_16 rfl
theorem dX2_takeNumber_39 : decode cX2_takeNumber 39 = .ok (.isub, 1) := dc0 (j := 3) sX2_takeNumber_36 rfl op_100
theorem dX2_takeNumber_40 : decode cX2_takeNumber 40 = .ok (.istore_n 3, 1) := dc0 (j := 4) sX2_takeNumber_36 rfl op_62
theorem dX2_takeNumber_41 : decode cX2_takeNumber 41 = .ok (.iinc 4 1, 3) := dcIp (j := 5) sX2_takeNumber_36 rfl op_132 rfl
theorem dX2_takeNumber_44 : decode cX2_takeNumber 44 = .ok (.goto (-36), 3) := dcTn (j := 8) (v := 36) (f := Instr.goto) sX2_takeNumber_36 rfl op_167 rfl rfl rfl
theorem dX2_takeNumber_47 : decode cX2_takeNumber 47 = .ok (.aload_n 0, 1) := dc0 (j := 11) sX2_takeNumber_36 rfl op_42
theorem dX2_takeNumber_48 : decode cX2_takeNumber 48 = .ok (.getfield 55, 3) := dcB (j := 12) (f := Instr.getfield) sX2_takeNumber_36 rfl op_180 rfl
theorem dX2_takeNumber_51 : decode cX2_takeNumber 51 = .ok (.iconst 2, 1) := dc0 (j := 15) sX2_takeNumber_36 rfl op_5
theorem dX2_takeNumber_52 : decode cX2_takeNumber 52 = .ok (.if_icmp .eq 11, 3) := dcTp (j := 16) (v := 11) (f := Instr.if_icmp .eq) sX2_takeNumber_36 rfl op_159 rfl rfl
theorem dX2_takeNumber_55 : decode cX2_takeNumber 55 = .ok (.aload_n 0, 1) := dc0 (j := 19) sX2_takeNumber_36 rfl op_42
theorem dX2_takeNumber_56 : decode cX2_takeNumber 56 = .ok (.iconst 2, 1) := dc0 (j := 20) sX2_takeNumber_36 rfl op_5
theorem dX2_takeNumber_57 : decode cX2_takeNumber 57 = .ok (.invokevirtual 81, 3) := dcB (j := 21) (f := Instr.invokevirtual) sX2_takeNumber_36 rfl op_182 rfl
theorem dX2_takeNumber_60 : decode cX2_takeNumber 60 = .ok (.goto 17, 3) := dcTp (j := 24) (v := 17) (f := Instr.goto) sX2_takeNumber_36 rfl op_167 rfl rfl
theorem dX2_takeNumber_63 : decode cX2_takeNumber 63 = .ok (.iload_n 3, 1) := dc0 (j := 27) sX2_takeNumber_36 rfl op_29
theorem dX2_takeNumber_64 : decode cX2_takeNumber 64 = .ok (.iload_n 1, 1) := dc0 (j := 28) sX2_takeNumber_36 rfl op_27
theorem dX2_takeNumber_65 : decode cX2_takeNumber 65 = .ok (.iload_n 2, 1) := dc0 (j := 29) sX2_takeNumber_36 rfl op_28
theorem dX2_takeNumber_66 : decode cX2_takeNumber 66 = .ok (.invokestatic 132, 3) := dcB (j := 30) (f := Instr.invokestatic) sX2_takeNumber_36 rfl op_184 rfl
theorem dX2_takeNumber_69 : decode cX2_takeNumber 69 = .ok (.ifCond .ne 8, 3) := dcTp (j := 33) (v := 8) (f := Instr.ifCond .ne) sX2_takeNumber_36 rfl op_154 rfl rfl
theorem sX2_takeNumber_72 : sgm cX2_takeNumber 72 [42, 6, 182, 0, 81, 42, 180, 0, 34, 153, 0, 5, 3, 172, 42, 182, 0, 52, 29, 172] := by decide +kernel
theorem dX2_takeNumber_72 : decode cX2_takeNumber 72 = .ok (.aload_n 0, 1) := dc0 (j := 0) sX2_takeNumber_72 rfl op_42
theorem dX2_takeNumber_73 : decode cX2_takeNumber 73 = .ok (.iconst 3, 1) := dc0 (j := 1) sX2_takeNumber_72 rfl op_6
theorem dX2_takeNumber_74 : decode cX2_takeNumber 74 = .ok (.invokevirtual 81, 3) := dcB (j := 2) (f := Instr.invokevirtual) sX2_takeNumber_72 rfl op_182 rfl
theorem dX2_takeNumber_77 : decode cX2_takeNumber 77 = .ok (.aload_n 0, 1) := dc0 (j := 5) sX2_takeNumber_72 rfl op_42
theorem dX2_takeNumber_78 : decode cX2_takeNumber 78 = .ok (.getfield 34, 3) := dcB (j := 6) (f := Instr.getfield) sX2_takeNumber_72 rfl op_180 rfl
theorem dX2_takeNumber_81 : decode cX2_takeNumber 81 = .ok (.ifCond .eq 5, 3) := dcTp (j := 9) (v := 5) (f := Instr.ifCond .eq) sX2_takeNumber_72 rfl op_153 rfl rfl
theorem dX2_takeNumber_84 : decode cX2_takeNumber 84 = .ok (.iconst 0, 1) := dc0 (j := 12) sX2_takeNumber_72 rfl op_3
theorem dX2_takeNumber_85 : decode cX2_takeNumber 85 = .ok (.ireturn, 1) := dc0 (j := 13) sX2_takeNumber_72 rfl op_172
theorem dX2_takeNumber_86 : decode cX2_takeNumber 86 = .ok (.aload_n 0, 1) := dc0 (j := 14) sX2_takeNumber_72 rfl op_42
theorem dX2_takeNumber_87 : decode cX2_takeNumber 87 = .ok (.invokevirtual 52, 3) := dcB (j := 15) (f := Instr.invokevirtual) sX2_takeNumber_72 rfl op_182 rfl
theorem dX2_takeNumber_90 : decode cX2_takeNumber 90 = .ok (.iload_n 3, 1) := dc0 (j := 18) sX2_takeNumber_72 rfl op_29
theorem dX2_takeNumber_91 : decode cX2_takeNumber 91 = .ok (.ireturn, 1) := dc0 (j := 19) sX2_takeNumber_72 rfl op_172
theorem sX2_fail_0 : sgm cX2_fail 0 [42, 180, 0, 34, 154, 0, 16, 42, 27, 181, 0, 34, 42, 42, 180, 0, 129, 181, 0, 9, 177] := by decide +kernel
theorem dX2_fail_0 : decode cX2_fail 0 = .ok (.aload_n 0, 1) := dc0 (j := 0) sX2_fail_0 rfl op_42
theorem dX2_fail_1 : decode cX2_fail 1 = .ok (.getfield 34, 3) := dcB (j := 1) (f := Instr.getfield) sX2_fail_0 rfl op_180 rfl
theorem dX2_fail_4 : decode cX2_fail 4 = .ok (.ifCond .ne 16, 3) := dcTp (j := 4) (v := 16) (f := Instr.ifCond .ne) sX2_fail_0 rfl op_154 rfl rfl
theorem dX2_fail_7 : decode cX2_fail 7 = .ok (.aload_n 0, 1) := dc0 (j := 7) sX2_fail_0 rfl op_42
theorem dX2_fail_8 : decode cX2_fail 8 = .ok (.iload_n 1, 1) := dc0 (j := 8) sX2_fail_0 rfl op_27
theorem dX2_fail_9 : decode cX2_fail 9 = .ok (.putfield 34, 3) := dcB (j := 9) (f := Instr.putfield) sX2_fail_0 rfl op_181 rfl
theorem dX2_fail_12 : decode cX2_fail 12 = .ok (.aload_n 0, 1) := dc0 (j := 12) sX2_fail_0 rfl op_42
theorem dX2_fail_13 : decode cX2_fail 13 = .ok (.aload_n 0, 1) := dc0 (j := 13) sX2_fail_0 rfl op_42
theorem dX2_fail_14 : decode cX2_fail 14 = .ok (.getfield 129, 3) := dcB (j := 14) (f := Instr.getfield) sX2_fail_0 rfl op_180 rfl
theorem dX2_fail_17 : decode cX2_fail 17 = .ok (.putfield 9, 3) := dcB (j := 17) (f := Instr.putfield) sX2_fail_0 rfl op_181 rfl
theorem dX2_fail_20 : decode cX2_fail 20 = .ok (.return_, 1) := dc0 (j := 20) sX2_fail_0 rfl op_177
theorem sX2_isWord_0 : sgm cX2_isWord 0 [42, 180, 0, 55, 4, 160, 0, 19, 42, 180, 0, 31, 42, 180, 0, 129, 100, 43, 182, 0, 136, 159, 0, 5, 3, 172, 3, 61, 28, 43, 182, 0, 136, 162, 0, 30] := by decide +kernel
theorem dX2_isWord_0 : decode cX2_isWord 0 = .ok (.aload_n 0, 1) := dc0 (j := 0) sX2_isWord_0 rfl op_42
theorem dX2_isWord_1 : decode cX2_isWord 1 = .ok (.getfield 55, 3) := dcB (j := 1) (f := Instr.getfield) sX2_isWord_0 rfl op_180 rfl
theorem dX2_isWord_4 : decode cX2_isWord 4 = .ok (.iconst 1, 1) := dc0 (j := 4) sX2_isWord_0 rfl op_4
theorem dX2_isWord_5 : decode cX2_isWord 5 = .ok (.if_icmp .ne 19, 3) := dcTp (j := 5) (v := 19) (f := Instr.if_icmp .ne) sX2_isWord_0 rfl op_160 rfl rfl
theorem dX2_isWord_8 : decode cX2_isWord 8 = .ok (.aload_n 0, 1) := dc0 (j := 8) sX2_isWord_0 rfl op_42
theorem dX2_isWord_9 : decode cX2_isWord 9 = .ok (.getfield 31, 3) := dcB (j := 9) (f := Instr.getfield) sX2_isWord_0 rfl op_180 rfl
theorem dX2_isWord_12 : decode cX2_isWord 12 = .ok (.aload_n 0, 1) := dc0 (j := 12) sX2_isWord_0 rfl op_42
theorem dX2_isWord_13 : decode cX2_isWord 13 = .ok (.getfield 129, 3) := dcB (j := 13) (f := Instr.getfield) sX2_isWord_0 rfl op_180 rfl
theorem dX2_isWord_16 : decode cX2_isWord 16 = .ok (.isub, 1) := dc0 (j := 16) sX2_isWord_0 rfl op_100
theorem dX2_isWord_17 : decode cX2_isWord 17 = .ok (.aload_n 1, 1) := dc0 (j := 17) sX2_isWord_0 rfl op_43
theorem dX2_isWord_18 : decode cX2_isWord 18 = .ok (.invokevirtual 136, 3) := dcB (j := 18) (f := Instr.invokevirtual) sX2_isWord_0 rfl op_182 rfl
theorem dX2_isWord_21 : decode cX2_isWord 21 = .ok (.if_icmp .eq 5, 3) := dcTp (j := 21) (v := 5) (f := Instr.if_icmp .eq) sX2_isWord_0 rfl op_159 rfl rfl
theorem dX2_isWord_24 : decode cX2_isWord 24 = .ok (.iconst 0, 1) := dc0 (j := 24) sX2_isWord_0 rfl op_3
theorem dX2_isWord_25 : decode cX2_isWord 25 = .ok (.ireturn, 1) := dc0 (j := 25) sX2_isWord_0 rfl op_172
theorem dX2_isWord_26 : decode cX2_isWord 26 = .ok (.iconst 0, 1) := dc0 (j := 26) sX2_isWord_0 rfl op_3
theorem dX2_isWord_27 : decode cX2_isWord 27 = .ok (.istore_n 2, 1) := dc0 (j := 27) sX2_isWord_0 rfl op_61
theorem dX2_isWord_28 : decode cX2_isWord 28 = .ok (.iload_n 2, 1) := dc0 (j := 28) sX2_isWord_0 rfl op_28
theorem dX2_isWord_29 : decode cX2_isWord 29 = .ok (.aload_n 1, 1) := dc0 (j := 29) sX2_isWord_0 rfl op_43
theorem dX2_isWord_30 : decode cX2_isWord 30 = .ok (.invokevirtual 136, 3) := dcB (j := 30) (f := Instr.invokevirtual) sX2_isWord_0 rfl op_182 rfl
theorem dX2_isWord_33 : decode cX2_isWord 33 = .ok (.if_icmp .ge 30, 3) := dcTp (j := 33) (v := 30) (f := Instr.if_icmp .ge) sX2_isWord_0 rfl op_162 rfl rfl
theorem sX2_isWord_36 : sgm cX2_isWord 36 [42, 180, 0, 15, 42, 180, 0, 129, 28, 96, 51, 43, 28, 182, 0, 142, 159, 0, 5, 3, 172, 132, 2, 1, 167, 255, 224, 4, 172] := by decide +kernel
theorem dX2_isWord_36 : decode cX2_isWord 36 = .ok (.aload_n 0, 1) := dc0 (j := 0) sX2_isWord_36 rfl op_42
theorem dX2_isWord_37 : decode cX2_isWord 37 = .ok (.getfield 15, 3) := dcB (j := 1) (f := Instr.getfield) sX2_isWord_36 rfl op_180 rfl
theorem dX2_isWord_40 : decode cX2_isWord 40 = .ok (.aload_n 0, 1) := dc0 (j := 4) sX2_isWord_36 rfl op_42
theorem dX2_isWord_41 : decode cX2_isWord 41 = .ok (.getfield 129, 3) := dcB (j := 5) (f := Instr.getfield) sX2_isWord_36 rfl op_180 rfl
theorem dX2_isWord_44 : decode cX2_isWord 44 = .ok (.iload_n 2, 1) := dc0 (j := 8) sX2_isWord_36 rfl op_28
theorem dX2_isWord_45 : decode cX2_isWord 45 = .ok (.iadd, 1) := dc0 (j := 9) sX2_isWord_36 rfl op_96
theorem dX2_isWord_46 : decode cX2_isWord 46 = .ok (.baload, 1) := dc0 (j := 10) sX2_isWord_36 rfl op_51
theorem dX2_isWord_47 : decode cX2_isWord 47 = .ok (.aload_n 1, 1) := dc0 (j := 11) sX2_isWord_36 rfl op_43
theorem dX2_isWord_48 : decode cX2_isWord 48 = .ok (.iload_n 2, 1) := dc0 (j := 12) sX2_isWord_36 rfl op_28
theorem dX2_isWord_49 : decode cX2_isWord 49 = .ok (.invokevirtual 142, 3) := dcB (j := 13) (f := Instr.invokevirtual) sX2_isWord_36 rfl op_182 rfl
theorem dX2_isWord_52 : decode cX2_isWord 52 = .ok (.if_icmp .eq 5, 3) := dcTp (j := 16) (v := 5) (f := Instr.if_icmp .eq) sX2_isWord_36 rfl op_159 rfl rfl
theorem dX2_isWord_55 : decode cX2_isWord 55 = .ok (.iconst 0, 1) := dc0 (j := 19) sX2_isWord_36 rfl op_3
theorem dX2_isWord_56 : decode cX2_isWord 56 = .ok (.ireturn, 1) := dc0 (j := 20) sX2_isWord_36 rfl op_172
theorem dX2_isWord_57 : decode cX2_isWord 57 = .ok (.iinc 2 1, 3) := dcIp (j := 21) sX2_isWord_36 rfl op_132 rfl
theorem dX2_isWord_60 : decode cX2_isWord 60 = .ok (.goto (-32), 3) := dcTn (j := 24) (v := 32) (f := Instr.goto) sX2_isWord_36 rfl op_167 rfl rfl rfl
theorem dX2_isWord_63 : decode cX2_isWord 63 = .ok (.iconst 1, 1) := dc0 (j := 27) sX2_isWord_36 rfl op_4
theorem dX2_isWord_64 : decode cX2_isWord 64 = .ok (.ireturn, 1) := dc0 (j := 28) sX2_isWord_36 rfl op_172
theorem sX2_nextToken_0 : sgm cX2_nextToken 0 [42, 42, 180, 0, 31, 181, 0, 129, 42, 180, 0, 129, 42, 180, 0, 28, 162, 0, 28, 42, 42, 180, 0, 129, 182, 0, 146, 7, 160, 0, 16, 42, 89, 180, 0, 129] := by decide +kernel
theorem dX2_nextToken_0 : decode cX2_nextToken 0 = .ok (.aload_n 0, 1) := dc0 (j := 0) sX2_nextToken_0 rfl op_42
theorem dX2_nextToken_1 : decode cX2_nextToken 1 = .ok (.aload_n 0, 1) := dc0 (j := 1) sX2_nextToken_0 rfl op_42
theorem dX2_nextToken_2 : decode cX2_nextToken 2 = .ok (.getfield 31, 3) := dcB (j := 2) (f := Instr.getfield) sX2_nextToken_0 rfl op_180 rfl
theorem dX2_nextToken_5 : decode cX2_nextToken 5 = .ok (.putfield 129, 3) := dcB (j := 5) (f := Instr.putfield) sX2_nextToken_0 rfl op_181 rfl
theorem dX2_nextToken_8 : decode cX2_nextToken 8 = .ok (.aload_n 0, 1) := dc0 (j := 8) sX2_nextToken_0 rfl op_42
theorem dX2_nextToken_9 : decode cX2_nextToken 9 = .ok (.getfield 129, 3) := dcB (j := 9) (f := Instr.getfield) sX2_nextToken_0 rfl op_180 rfl
theorem dX2_nextToken_12 : decode cX2_nextToken 12 = .ok (.aload_n 0, 1) := dc0 (j := 12) sX2_nextToken_0 rfl op_42
theorem dX2_nextToken_13 : decode cX2_nextToken 13 = .ok (.getfield 28, 3) := dcB (j := 13) (f := Instr.getfield) sX2_nextToken_0 rfl op_180 rfl
theorem dX2_nextToken_16 : decode cX2_nextToken 16 = .ok (.if_icmp .ge 28, 3) := dcTp (j := 16) (v := 28) (f := Instr.if_icmp .ge) sX2_nextToken_0 rfl op_162 rfl rfl
theorem dX2_nextToken_19 : decode cX2_nextToken 19 = .ok (.aload_n 0, 1) := dc0 (j := 19) sX2_nextToken_0 rfl op_42
theorem dX2_nextToken_20 : decode cX2_nextToken 20 = .ok (.aload_n 0, 1) := dc0 (j := 20) sX2_nextToken_0 rfl op_42
theorem dX2_nextToken_21 : decode cX2_nextToken 21 = .ok (.getfield 129, 3) := dcB (j := 21) (f := Instr.getfield) sX2_nextToken_0 rfl op_180 rfl
theorem dX2_nextToken_24 : decode cX2_nextToken 24 = .ok (.invokevirtual 146, 3) := dcB (j := 24) (f := Instr.invokevirtual) sX2_nextToken_0 rfl op_182 rfl
theorem dX2_nextToken_27 : decode cX2_nextToken 27 = .ok (.iconst 4, 1) := dc0 (j := 27) sX2_nextToken_0 rfl op_7
theorem dX2_nextToken_28 : decode cX2_nextToken 28 = .ok (.if_icmp .ne 16, 3) := dcTp (j := 28) (v := 16) (f := Instr.if_icmp .ne) sX2_nextToken_0 rfl op_160 rfl rfl
theorem dX2_nextToken_31 : decode cX2_nextToken 31 = .ok (.aload_n 0, 1) := dc0 (j := 31) sX2_nextToken_0 rfl op_42
theorem dX2_nextToken_32 : decode cX2_nextToken 32 = .ok (.dup, 1) := dc0 (j := 32) sX2_nextToken_0 rfl op_89
theorem dX2_nextToken_33 : decode cX2_nextToken 33 = .ok (.getfield 129, 3) := dcB (j := 33) (f := Instr.getfield) sX2_nextToken_0 rfl op_180 rfl
theorem sX2_nextToken_36 : sgm cX2_nextToken 36 [4, 96, 181, 0, 129, 167, 255, 223, 42, 42, 42, 180, 0, 129, 182, 0, 146, 181, 0, 55, 42, 42, 180, 0, 129, 4, 96, 42, 180, 0, 28, 184, 0, 22] := by decide +kernel
theorem dX2_nextToken_36 : decode cX2_nextToken 36 = .ok (.iconst 1, 1) := dc0 (j := 0) sX2_nextToken_36 rfl op_4
theorem dX2_nextToken_37 : decode cX2_nextToken 37 = .ok (.iadd, 1) := dc0 (j := 1) sX2_nextToken_36 rfl op_96
theorem dX2_nextToken_38 : decode cX2_nextToken 38 = .ok (.putfield 129, 3) := dcB (j := 2) (f := Instr.putfield) sX2_nextToken_36 rfl op_181 rfl
theorem dX2_nextToken_41 : decode cX2_nextToken 41 = .ok (.goto (-33), 3) := dcTn (j := 5) (v := 33) (f := Instr.goto) sX2_nextToken_36 rfl op_167 rfl rfl rfl
theorem dX2_nextToken_44 : decode cX2_nextToken 44 = .ok (.aload_n 0, 1) := dc0 (j := 8) sX2_nextToken_36 rfl op_42
theorem dX2_nextToken_45 : decode cX2_nextToken 45 = .ok (.aload_n 0, 1) := dc0 (j := 9) sX2_nextToken_36 rfl op_42
theorem dX2_nextToken_46 : decode cX2_nextToken 46 = .ok (.aload_n 0, 1) := dc0 (j := 10) sX2_nextToken_36 rfl op_42
theorem dX2_nextToken_47 : decode cX2_nextToken 47 = .ok (.getfield 129, 3) := dcB (j := 11) (f := Instr.getfield) sX2_nextToken_36 rfl op_180 rfl
theorem dX2_nextToken_50 : decode cX2_nextToken 50 = .ok (.invokevirtual 146, 3) := dcB (j := 14) (f := Instr.invokevirtual) sX2_nextToken_36 rfl op_182 rfl
theorem dX2_nextToken_53 : decode cX2_nextToken 53 = .ok (.putfield 55, 3) := dcB (j := 17) (f := Instr.putfield) sX2_nextToken_36 rfl op_181 rfl
theorem dX2_nextToken_56 : decode cX2_nextToken 56 = .ok (.aload_n 0, 1) := dc0 (j := 20) sX2_nextToken_36 rfl op_42
theorem dX2_nextToken_57 : decode cX2_nextToken 57 = .ok (.aload_n 0, 1) := dc0 (j := 21) sX2_nextToken_36 rfl op_42
theorem dX2_nextToken_58 : decode cX2_nextToken 58 = .ok (.getfield 129, 3) := dcB (j := 22) (f := Instr.getfield) sX2_nextToken_36 rfl op_180 rfl
theorem dX2_nextToken_61 : decode cX2_nextToken 61 = .ok (.iconst 1, 1) := dc0 (j := 25) sX2_nextToken_36 rfl op_4
theorem dX2_nextToken_62 : decode cX2_nextToken 62 = .ok (.iadd, 1) := dc0 (j := 26) sX2_nextToken_36 rfl op_96
theorem dX2_nextToken_63 : decode cX2_nextToken 63 = .ok (.aload_n 0, 1) := dc0 (j := 27) sX2_nextToken_36 rfl op_42
theorem dX2_nextToken_64 : decode cX2_nextToken 64 = .ok (.getfield 28, 3) := dcB (j := 28) (f := Instr.getfield) sX2_nextToken_36 rfl op_180 rfl
theorem dX2_nextToken_67 : decode cX2_nextToken 67 = .ok (.invokestatic 22, 3) := dcB (j := 31) (f := Instr.invokestatic) sX2_nextToken_36 rfl op_184 rfl
theorem sX2_nextToken_70 : sgm cX2_nextToken 70 [181, 0, 31, 42, 180, 0, 31, 42, 180, 0, 28, 162, 0, 47, 42, 180, 0, 55, 4, 159, 0, 11, 42, 180, 0, 55, 5, 160, 0, 31, 42, 42, 180, 0, 31] := by decide +kernel
theorem dX2_nextToken_70 : decode cX2_nextToken 70 = .ok (.putfield 31, 3) := dcB (j := 0) (f := Instr.putfield) sX2_nextToken_70 rfl op_181 rfl
theorem dX2_nextToken_73 : decode cX2_nextToken 73 = .ok (.aload_n 0, 1) := dc0 (j := 3) sX2_nextToken_70 rfl op_42
theorem dX2_nextToken_74 : decode cX2_nextToken 74 = .ok (.getfield 31, 3) := dcB (j := 4) (f := Instr.getfield) sX2_nextToken_70 rfl op_180 rfl
theorem dX2_nextToken_77 : decode cX2_nextToken 77 = .ok (.aload_n 0, 1) := dc0 (j := 7) sX2_nextToken_70 rfl op_42
theorem dX2_nextToken_78 : decode cX2_nextToken 78 = .ok (.getfield 28, 3) := dcB (j := 8) (f := Instr.getfield) sX2_nextToken_70 rfl op_180 rfl
theorem dX2_nextToken_81 : decode cX2_nextToken 81 = .ok (.if_icmp .ge 47, 3) := dcTp (j := 11) (v := 47) (f := Instr.if_icmp .ge) sX2_nextToken_70 rfl op_162 rfl rfl
theorem dX2_nextToken_84 : decode cX2_nextToken 84 = .ok (.aload_n 0, 1) := dc0 (j := 14) sX2_nextToken_70 rfl op_42
theorem dX2_nextToken_85 : decode cX2_nextToken 85 = .ok (.getfield 55, 3) := dcB (j := 15) (f := Instr.getfield) sX2_nextToken_70 rfl op_180 rfl
theorem dX2_nextToken_88 : decode cX2_nextToken 88 = .ok (.iconst 1, 1) := dc0 (j := 18) sX2_nextToken_70 rfl op_4
theorem dX2_nextToken_89 : decode cX2_nextToken 89 = .ok (.if_icmp .eq 11, 3) := dcTp (j := 19) (v := 11) (f := Instr.if_icmp .eq) sX2_nextToken_70 rfl op_159 rfl rfl
theorem dX2_nextToken_92 : decode cX2_nextToken 92 = .ok (.aload_n 0, 1) := dc0 (j := 22) sX2_nextToken_70 rfl op_42
theorem dX2_nextToken_93 : decode cX2_nextToken 93 = .ok (.getfield 55, 3) := dcB (j := 23) (f := Instr.getfield) sX2_nextToken_70 rfl op_180 rfl
theorem dX2_nextToken_96 : decode cX2_nextToken 96 = .ok (.iconst 2, 1) := dc0 (j := 26) sX2_nextToken_70 rfl op_5
theorem dX2_nextToken_97 : decode cX2_nextToken 97 = .ok (.if_icmp .ne 31, 3) := dcTp (j := 27) (v := 31) (f := Instr.if_icmp .ne) sX2_nextToken_70 rfl op_160 rfl rfl
theorem dX2_nextToken_100 : decode cX2_nextToken 100 = .ok (.aload_n 0, 1) := dc0 (j := 30) sX2_nextToken_70 rfl op_42
theorem dX2_nextToken_101 : decode cX2_nextToken 101 = .ok (.aload_n 0, 1) := dc0 (j := 31) sX2_nextToken_70 rfl op_42
theorem dX2_nextToken_102 : decode cX2_nextToken 102 = .ok (.getfield 31, 3) := dcB (j := 32) (f := Instr.getfield) sX2_nextToken_70 rfl op_180 rfl
theorem sX2_nextToken_105 : sgm cX2_nextToken 105 [182, 0, 146, 42, 180, 0, 55, 160, 0, 16, 42, 89, 180, 0, 31, 4, 96, 181, 0, 31, 167, 255, 204, 42, 180, 0, 55, 16, 6, 159, 0, 24, 42, 180, 0, 55] := by decide +kernel
theorem dX2_nextToken_105 : decode cX2_nextToken 105 = .ok (.invokevirtual 146, 3) := dcB (j := 0) (f := Instr.invokevirtual) sX2_nextToken_105 rfl op_182 rfl
theorem dX2_nextToken_108 : decode cX2_nextToken 108 = .ok (.aload_n 0, 1) := dc0 (j := 3) sX2_nextToken_105 rfl op_42
theorem dX2_nextToken_109 : decode cX2_nextToken 109 = .ok (.getfield 55, 3) := dcB (j := 4) (f := Instr.getfield) sX2_nextToken_105 rfl op_180 rfl
theorem dX2_nextToken_112 : decode cX2_nextToken 112 = .ok (.if_icmp .ne 16, 3) := dcTp (j := 7) (v := 16) (f := Instr.if_icmp .ne) sX2_nextToken_105 rfl op_160 rfl rfl
theorem dX2_nextToken_115 : decode cX2_nextToken 115 = .ok (.aload_n 0, 1) := dc0 (j := 10) sX2_nextToken_105 rfl op_42
theorem dX2_nextToken_116 : decode cX2_nextToken 116 = .ok (.dup, 1) := dc0 (j := 11) sX2_nextToken_105 rfl op_89
theorem dX2_nextToken_117 : decode cX2_nextToken 117 = .ok (.getfield 31, 3) := dcB (j := 12) (f := Instr.getfield) sX2_nextToken_105 rfl op_180 rfl
theorem dX2_nextToken_120 : decode cX2_nextToken 120 = .ok (.iconst 1, 1) := dc0 (j := 15) sX2_nextToken_105 rfl op_4
theorem dX2_nextToken_121 : decode cX2_nextToken 121 = .ok (.iadd, 1) := dc0 (j := 16) sX2_nextToken_105 rfl op_96
theorem dX2_nextToken_122 : decode cX2_nextToken 122 = .ok (.putfield 31, 3) := dcB (j := 17) (f := Instr.putfield) sX2_nextToken_105 rfl op_181 rfl
theorem dX2_nextToken_125 : decode cX2_nextToken 125 = .ok (.goto (-52), 3) := dcTn (j := 20) (v := 52) (f := Instr.goto) sX2_nextToken_105 rfl op_167 rfl rfl rfl
theorem dX2_nextToken_128 : decode cX2_nextToken 128 = .ok (.aload_n 0, 1) := dc0 (j := 23) sX2_nextToken_105 rfl op_42
theorem dX2_nextToken_129 : decode cX2_nextToken 129 = .ok (.getfield 55, 3) := dcB (j := 24) (f := Instr.getfield) sX2_nextToken_105 rfl op_180 rfl
theorem dX2_nextToken_132 : decode cX2_nextToken 132 = .ok (.bipush 6, 2) := dcSp (j := 27) (a := 6) (f := Instr.bipush) sX2_nextToken_105 rfl op_16 rfl
theorem dX2_nextToken_134 : decode cX2_nextToken 134 = .ok (.if_icmp .eq 24, 3) := dcTp (j := 29) (v := 24) (f := Instr.if_icmp .eq) sX2_nextToken_105 rfl op_159 rfl rfl
theorem dX2_nextToken_137 : decode cX2_nextToken 137 = .ok (.aload_n 0, 1) := dc0 (j := 32) sX2_nextToken_105 rfl op_42
theorem dX2_nextToken_138 : decode cX2_nextToken 138 = .ok (.getfield 55, 3) := dcB (j := 33) (f := Instr.getfield) sX2_nextToken_105 rfl op_180 rfl
theorem sX2_nextToken_141 : sgm cX2_nextToken 141 [5, 160, 0, 27, 42, 180, 0, 31, 42, 180, 0, 129, 100, 6, 164, 0, 14, 42, 16, 6, 181, 0, 55, 42, 4, 182, 0, 81, 177] := by decide +kernel
theorem dX2_nextToken_141 : decode cX2_nextToken 141 = .ok (.iconst 2, 1) := dc0 (j := 0) sX2_nextToken_141 rfl op_5
theorem dX2_nextToken_142 : decode cX2_nextToken 142 = .ok (.if_icmp .ne 27, 3) := dcTp (j := 1) (v := 27) (f := Instr.if_icmp .ne) sX2_nextToken_141 rfl op_160 rfl rfl
theorem dX2_nextToken_145 : decode cX2_nextToken 145 = .ok (.aload_n 0, 1) := dc0 (j := 4) sX2_nextToken_141 rfl op_42
theorem dX2_nextToken_146 : decode cX2_nextToken 146 = .ok (.getfield 31, 3) := dcB (j := 5) (f := Instr.getfield) sX2_nextToken_141 rfl op_180 rfl
theorem dX2_nextToken_149 : decode cX2_nextToken 149 = .ok (.aload_n 0, 1) := dc0 (j := 8) sX2_nextToken_141 rfl op_42
theorem dX2_nextToken_150 : decode cX2_nextToken 150 = .ok (.getfield 129, 3) := dcB (j := 9) (f := Instr.getfield) sX2_nextToken_141 rfl op_180 rfl
theorem dX2_nextToken_153 : decode cX2_nextToken 153 = .ok (.isub, 1) := dc0 (j := 12) sX2_nextToken_141 rfl op_100
theorem dX2_nextToken_154 : decode cX2_nextToken 154 = .ok (.iconst 3, 1) := dc0 (j := 13) sX2_nextToken_141 rfl op_6
theorem dX2_nextToken_155 : decode cX2_nextToken 155 = .ok (.if_icmp .le 14, 3) := dcTp (j := 14) (v := 14) (f := Instr.if_icmp .le) sX2_nextToken_141 rfl op_164 rfl rfl
theorem dX2_nextToken_158 : decode cX2_nextToken 158 = .ok (.aload_n 0, 1) := dc0 (j := 17) sX2_nextToken_141 rfl op_42
theorem dX2_nextToken_159 : decode cX2_nextToken 159 = .ok (.bipush 6, 2) := dcSp (j := 18) (a := 6) (f := Instr.bipush) sX2_nextToken_141 rfl op_16 rfl
theorem dX2_nextToken_161 : decode cX2_nextToken 161 = .ok (.putfield 55, 3) := dcB (j := 20) (f := Instr.putfield) sX2_nextToken_141 rfl op_181 rfl
theorem dX2_nextToken_164 : decode cX2_nextToken 164 = .ok (.aload_n 0, 1) := dc0 (j := 23) sX2_nextToken_141 rfl op_42
theorem dX2_nextToken_165 : decode cX2_nextToken 165 = .ok (.iconst 1, 1) := dc0 (j := 24) sX2_nextToken_141 rfl op_4
theorem dX2_nextToken_166 : decode cX2_nextToken 166 = .ok (.invokevirtual 81, 3) := dcB (j := 25) (f := Instr.invokevirtual) sX2_nextToken_141 rfl op_182 rfl
theorem dX2_nextToken_169 : decode cX2_nextToken 169 = .ok (.return_, 1) := dc0 (j := 28) sX2_nextToken_141 rfl op_177
theorem sX2_kindAt_0 : sgm cX2_kindAt 0 [27, 42, 180, 0, 28, 161, 0, 5, 8, 172, 42, 180, 0, 15, 27, 51, 61, 28, 16, 97, 161, 0, 11, 28, 16, 122, 163, 0, 5, 4, 172, 28, 16, 48] := by decide +kernel
theorem dX2_kindAt_0 : decode cX2_kindAt 0 = .ok (.iload_n 1, 1) := dc0 (j := 0) sX2_kindAt_0 rfl op_27
theorem dX2_kindAt_1 : decode cX2_kindAt 1 = .ok (.aload_n 0, 1) := dc0 (j := 1) sX2_kindAt_0 rfl op_42
theorem dX2_kindAt_2 : decode cX2_kindAt 2 = .ok (.getfield 28, 3) := dcB (j := 2) (f := Instr.getfield) sX2_kindAt_0 rfl op_180 rfl
theorem dX2_kindAt_5 : decode cX2_kindAt 5 = .ok (.if_icmp .lt 5, 3) := dcTp (j := 5) (v := 5) (f := Instr.if_icmp .lt) sX2_kindAt_0 rfl op_161 rfl rfl
theorem dX2_kindAt_8 : decode cX2_kindAt 8 = .ok (.iconst 5, 1) := dc0 (j := 8) sX2_kindAt_0 rfl op_8
theorem dX2_kindAt_9 : decode cX2_kindAt 9 = .ok (.ireturn, 1) := dc0 (j := 9) sX2_kindAt_0 rfl op_172
theorem dX2_kindAt_10 : decode cX2_kindAt 10 = .ok (.aload_n 0, 1) := dc0 (j := 10) sX2_kindAt_0 rfl op_42
theorem dX2_kindAt_11 : decode cX2_kindAt 11 = .ok (.getfield 15, 3) := dcB (j := 11) (f := Instr.getfield) sX2_kindAt_0 rfl op_180 rfl
theorem dX2_kindAt_14 : decode cX2_kindAt 14 = .ok (.iload_n 1, 1) := dc0 (j := 14) sX2_kindAt_0 rfl op_27
theorem dX2_kindAt_15 : decode cX2_kindAt 15 = .ok (.baload, 1) := dc0 (j := 15) sX2_kindAt_0 rfl op_51
theorem dX2_kindAt_16 : decode cX2_kindAt 16 = .ok (.istore_n 2, 1) := dc0 (j := 16) sX2_kindAt_0 rfl op_61
theorem dX2_kindAt_17 : decode cX2_kindAt 17 = .ok (.iload_n 2, 1) := dc0 (j := 17) sX2_kindAt_0 rfl op_28
theorem dX2_kindAt_18 : decode cX2_kindAt 18 = .ok (.bipush 97, 2) := dcSp (j := 18) (a := 97) (f := Instr.bipush) sX2_kindAt_0 rfl op_16 rfl
theorem dX2_kindAt_20 : decode cX2_kindAt 20 = .ok (.if_icmp .lt 11, 3) := dcTp (j := 20) (v := 11) (f := Instr.if_icmp .lt) sX2_kindAt_0 rfl op_161 rfl rfl
theorem dX2_kindAt_23 : decode cX2_kindAt 23 = .ok (.iload_n 2, 1) := dc0 (j := 23) sX2_kindAt_0 rfl op_28
theorem dX2_kindAt_24 : decode cX2_kindAt 24 = .ok (.bipush 122, 2) := dcSp (j := 24) (a := 122) (f := Instr.bipush) sX2_kindAt_0 rfl op_16 rfl
theorem dX2_kindAt_26 : decode cX2_kindAt 26 = .ok (.if_icmp .gt 5, 3) := dcTp (j := 26) (v := 5) (f := Instr.if_icmp .gt) sX2_kindAt_0 rfl op_163 rfl rfl
theorem dX2_kindAt_29 : decode cX2_kindAt 29 = .ok (.iconst 1, 1) := dc0 (j := 29) sX2_kindAt_0 rfl op_4
theorem dX2_kindAt_30 : decode cX2_kindAt 30 = .ok (.ireturn, 1) := dc0 (j := 30) sX2_kindAt_0 rfl op_172
theorem dX2_kindAt_31 : decode cX2_kindAt 31 = .ok (.iload_n 2, 1) := dc0 (j := 31) sX2_kindAt_0 rfl op_28
theorem dX2_kindAt_32 : decode cX2_kindAt 32 = .ok (.bipush 48, 2) := dcSp (j := 32) (a := 48) (f := Instr.bipush) sX2_kindAt_0 rfl op_16 rfl
theorem sX2_kindAt_34 : sgm cX2_kindAt 34 [161, 0, 11, 28, 16, 57, 163, 0, 5, 5, 172, 28, 16, 10, 159, 0, 9, 28, 16, 32, 160, 0, 5, 7, 172, 28, 16, 59, 160, 0, 7, 6, 167, 0, 5] := by decide +kernel
theorem dX2_kindAt_34 : decode cX2_kindAt 34 = .ok (.if_icmp .lt 11, 3) := dcTp (j := 0) (v := 11) (f := Instr.if_icmp .lt) sX2_kindAt_34 rfl op_161 rfl rfl
theorem dX2_kindAt_37 : decode cX2_kindAt 37 = .ok (.iload_n 2, 1) := dc0 (j := 3) sX2_kindAt_34 rfl op_28
theorem dX2_kindAt_38 : decode cX2_kindAt 38 = .ok (.bipush 57, 2) := dcSp (j := 4) (a := 57) (f := Instr.bipush) sX2_kindAt_34 rfl op_16 rfl
theorem dX2_kindAt_40 : decode cX2_kindAt 40 = .ok (.if_icmp .gt 5, 3) := dcTp (j := 6) (v := 5) (f := Instr.if_icmp .gt) sX2_kindAt_34 rfl op_163 rfl rfl
theorem dX2_kindAt_43 : decode cX2_kindAt 43 = .ok (.iconst 2, 1) := dc0 (j := 9) sX2_kindAt_34 rfl op_5
theorem dX2_kindAt_44 : decode cX2_kindAt 44 = .ok (.ireturn, 1) := dc0 (j := 10) sX2_kindAt_34 rfl op_172
theorem dX2_kindAt_45 : decode cX2_kindAt 45 = .ok (.iload_n 2, 1) := dc0 (j := 11) sX2_kindAt_34 rfl op_28
theorem dX2_kindAt_46 : decode cX2_kindAt 46 = .ok (.bipush 10, 2) := dcSp (j := 12) (a := 10) (f := Instr.bipush) sX2_kindAt_34 rfl op_16 rfl
theorem dX2_kindAt_48 : decode cX2_kindAt 48 = .ok (.if_icmp .eq 9, 3) := dcTp (j := 14) (v := 9) (f := Instr.if_icmp .eq) sX2_kindAt_34 rfl op_159 rfl rfl
theorem dX2_kindAt_51 : decode cX2_kindAt 51 = .ok (.iload_n 2, 1) := dc0 (j := 17) sX2_kindAt_34 rfl op_28
theorem dX2_kindAt_52 : decode cX2_kindAt 52 = .ok (.bipush 32, 2) := dcSp (j := 18) (a := 32) (f := Instr.bipush) sX2_kindAt_34 rfl op_16 rfl
theorem dX2_kindAt_54 : decode cX2_kindAt 54 = .ok (.if_icmp .ne 5, 3) := dcTp (j := 20) (v := 5) (f := Instr.if_icmp .ne) sX2_kindAt_34 rfl op_160 rfl rfl
theorem dX2_kindAt_57 : decode cX2_kindAt 57 = .ok (.iconst 4, 1) := dc0 (j := 23) sX2_kindAt_34 rfl op_7
theorem dX2_kindAt_58 : decode cX2_kindAt 58 = .ok (.ireturn, 1) := dc0 (j := 24) sX2_kindAt_34 rfl op_172
theorem dX2_kindAt_59 : decode cX2_kindAt 59 = .ok (.iload_n 2, 1) := dc0 (j := 25) sX2_kindAt_34 rfl op_28
theorem dX2_kindAt_60 : decode cX2_kindAt 60 = .ok (.bipush 59, 2) := dcSp (j := 26) (a := 59) (f := Instr.bipush) sX2_kindAt_34 rfl op_16 rfl
theorem dX2_kindAt_62 : decode cX2_kindAt 62 = .ok (.if_icmp .ne 7, 3) := dcTp (j := 28) (v := 7) (f := Instr.if_icmp .ne) sX2_kindAt_34 rfl op_160 rfl rfl
theorem dX2_kindAt_65 : decode cX2_kindAt 65 = .ok (.iconst 3, 1) := dc0 (j := 31) sX2_kindAt_34 rfl op_6
theorem dX2_kindAt_66 : decode cX2_kindAt 66 = .ok (.goto 5, 3) := dcTp (j := 32) (v := 5) (f := Instr.goto) sX2_kindAt_34 rfl op_167 rfl rfl
theorem sX2_kindAt_69 : sgm cX2_kindAt 69 [16, 6, 172] := by decide +kernel
theorem dX2_kindAt_69 : decode cX2_kindAt 69 = .ok (.bipush 6, 2) := dcSp (j := 0) (a := 6) (f := Instr.bipush) sX2_kindAt_69 rfl op_16 rfl
theorem dX2_kindAt_71 : decode cX2_kindAt 71 = .ok (.ireturn, 1) := dc0 (j := 2) sX2_kindAt_69 rfl op_172
theorem sX3_init_0 : sgm cX3_init 0 [42, 183, 0, 3, 42, 16, 10, 188, 10, 181, 0, 9, 42, 16, 10, 188, 10, 181, 0, 15, 42, 16, 12, 188, 10, 181, 0, 18, 177] := by decide +kernel
theorem dX3_init_0 : decode cX3_init 0 = .ok (.aload_n 0, 1) := dc0 (j := 0) sX3_init_0 rfl op_42
theorem dX3_init_1 : decode cX3_init 1 = .ok (.invokespecial 3, 3) := dcB (j := 1) (f := Instr.invokespecial) sX3_init_0 rfl op_183 rfl
theorem dX3_init_4 : decode cX3_init 4 = .ok (.aload_n 0, 1) := dc0 (j := 4) sX3_init_0 rfl op_42
theorem dX3_init_5 : decode cX3_init 5 = .ok (.bipush 10, 2) := dcSp (j := 5) (a := 10) (f := Instr.bipush) sX3_init_0 rfl op_16 rfl
theorem dX3_init_7 : decode cX3_init 7 = .ok (.newarray .int, 2) := dcN (j := 7) sX3_init_0 rfl na_10
theorem dX3_init_9 : decode cX3_init 9 = .ok (.putfield 9, 3) := dcB (j := 9) (f := Instr.putfield) sX3_init_0 rfl op_181 rfl
theorem dX3_init_12 : decode cX3_init 12 = .ok (.aload_n 0, 1) := dc0 (j := 12) sX3_init_0 rfl op_42
theorem dX3_init_13 : decode cX3_init 13 = .ok (.bipush 10, 2) := dcSp (j := 13) (a := 10) (f := Instr.bipush) sX3_init_0 rfl op_16 rfl
theorem dX3_init_15 : decode cX3_init 15 = .ok (.newarray .int, 2) := dcN (j := 15) sX3_init_0 rfl na_10
theorem dX3_init_17 : decode cX3_init 17 = .ok (.putfield 15, 3) := dcB (j := 17) (f := Instr.putfield) sX3_init_0 rfl op_181 rfl
theorem dX3_init_20 : decode cX3_init 20 = .ok (.aload_n 0, 1) := dc0 (j := 20) sX3_init_0 rfl op_42
theorem dX3_init_21 : decode cX3_init 21 = .ok (.bipush 12, 2) := dcSp (j := 21) (a := 12) (f := Instr.bipush) sX3_init_0 rfl op_16 rfl
theorem dX3_init_23 : decode cX3_init 23 = .ok (.newarray .int, 2) := dcN (j := 23) sX3_init_0 rfl na_10
theorem dX3_init_25 : decode cX3_init 25 = .ok (.putfield 18, 3) := dcB (j := 25) (f := Instr.putfield) sX3_init_0 rfl op_181 rfl
theorem dX3_init_28 : decode cX3_init 28 = .ok (.return_, 1) := dc0 (j := 28) sX3_init_0 rfl op_177
theorem sX3_takeRow_0 : sgm cX3_takeRow 0 [42, 28, 181, 0, 21, 3, 62, 29, 16, 10, 162, 0, 27, 42, 180, 0, 15, 29, 43, 180, 0, 25, 29, 47, 136, 42, 182, 0, 31, 126, 79, 132, 3, 1] := by decide +kernel
theorem dX3_takeRow_0 : decode cX3_takeRow 0 = .ok (.aload_n 0, 1) := dc0 (j := 0) sX3_takeRow_0 rfl op_42
theorem dX3_takeRow_1 : decode cX3_takeRow 1 = .ok (.iload_n 2, 1) := dc0 (j := 1) sX3_takeRow_0 rfl op_28
theorem dX3_takeRow_2 : decode cX3_takeRow 2 = .ok (.putfield 21, 3) := dcB (j := 2) (f := Instr.putfield) sX3_takeRow_0 rfl op_181 rfl
theorem dX3_takeRow_5 : decode cX3_takeRow 5 = .ok (.iconst 0, 1) := dc0 (j := 5) sX3_takeRow_0 rfl op_3
theorem dX3_takeRow_6 : decode cX3_takeRow 6 = .ok (.istore_n 3, 1) := dc0 (j := 6) sX3_takeRow_0 rfl op_62
theorem dX3_takeRow_7 : decode cX3_takeRow 7 = .ok (.iload_n 3, 1) := dc0 (j := 7) sX3_takeRow_0 rfl op_29
theorem dX3_takeRow_8 : decode cX3_takeRow 8 = .ok (.bipush 10, 2) := dcSp (j := 8) (a := 10) (f := Instr.bipush) sX3_takeRow_0 rfl op_16 rfl
theorem dX3_takeRow_10 : decode cX3_takeRow 10 = .ok (.if_icmp .ge 27, 3) := dcTp (j := 10) (v := 27) (f := Instr.if_icmp .ge) sX3_takeRow_0 rfl op_162 rfl rfl
theorem dX3_takeRow_13 : decode cX3_takeRow 13 = .ok (.aload_n 0, 1) := dc0 (j := 13) sX3_takeRow_0 rfl op_42
theorem dX3_takeRow_14 : decode cX3_takeRow 14 = .ok (.getfield 15, 3) := dcB (j := 14) (f := Instr.getfield) sX3_takeRow_0 rfl op_180 rfl
theorem dX3_takeRow_17 : decode cX3_takeRow 17 = .ok (.iload_n 3, 1) := dc0 (j := 17) sX3_takeRow_0 rfl op_29
theorem dX3_takeRow_18 : decode cX3_takeRow 18 = .ok (.aload_n 1, 1) := dc0 (j := 18) sX3_takeRow_0 rfl op_43
theorem dX3_takeRow_19 : decode cX3_takeRow 19 = .ok (.getfield 25, 3) := dcB (j := 19) (f := Instr.getfield) sX3_takeRow_0 rfl op_180 rfl
theorem dX3_takeRow_22 : decode cX3_takeRow 22 = .ok (.iload_n 3, 1) := dc0 (j := 22) sX3_takeRow_0 rfl op_29
theorem dX3_takeRow_23 : decode cX3_takeRow 23 = .ok (.laload, 1) := dc0 (j := 23) sX3_takeRow_0 rfl op_47
theorem dX3_takeRow_24 : decode cX3_takeRow 24 = .ok (.l2i, 1) := dc0 (j := 24) sX3_takeRow_0 rfl op_136
theorem dX3_takeRow_25 : decode cX3_takeRow 25 = .ok (.aload_n 0, 1) := dc0 (j := 25) sX3_takeRow_0 rfl op_42
theorem dX3_takeRow_26 : decode cX3_takeRow 26 = .ok (.invokevirtual 31, 3) := dcB (j := 26) (f := Instr.invokevirtual) sX3_takeRow_0 rfl op_182 rfl
theorem dX3_takeRow_29 : decode cX3_takeRow 29 = .ok (.iand, 1) := dc0 (j := 29) sX3_takeRow_0 rfl op_126
theorem dX3_takeRow_30 : decode cX3_takeRow 30 = .ok (.iastore, 1) := dc0 (j := 30) sX3_takeRow_0 rfl op_79
theorem dX3_takeRow_31 : decode cX3_takeRow 31 = .ok (.iinc 3 1, 3) := dcIp (j := 31) sX3_takeRow_0 rfl op_132 rfl
theorem sX3_takeRow_34 : sgm cX3_takeRow 34 [167, 255, 229, 177] := by decide +kernel
theorem dX3_takeRow_34 : decode cX3_takeRow 34 = .ok (.goto (-27), 3) := dcTn (j := 0) (v := 27) (f := Instr.goto) sX3_takeRow_34 rfl op_167 rfl rfl rfl
theorem dX3_takeRow_37 : decode cX3_takeRow 37 = .ok (.return_, 1) := dc0 (j := 3) sX3_takeRow_34 rfl op_177
theorem sX3_takeWave_0 : sgm cX3_takeWave 0 [42, 27, 181, 0, 21, 3, 62, 29, 16, 10, 162, 0, 27, 42, 180, 0, 15, 29, 4, 29, 28, 104, 42, 180, 0, 21, 184, 0, 35, 120, 79, 132, 3, 1] := by decide +kernel
theorem dX3_takeWave_0 : decode cX3_takeWave 0 = .ok (.aload_n 0, 1) := dc0 (j := 0) sX3_takeWave_0 rfl op_42
theorem dX3_takeWave_1 : decode cX3_takeWave 1 = .ok (.iload_n 1, 1) := dc0 (j := 1) sX3_takeWave_0 rfl op_27
theorem dX3_takeWave_2 : decode cX3_takeWave 2 = .ok (.putfield 21, 3) := dcB (j := 2) (f := Instr.putfield) sX3_takeWave_0 rfl op_181 rfl
theorem dX3_takeWave_5 : decode cX3_takeWave 5 = .ok (.iconst 0, 1) := dc0 (j := 5) sX3_takeWave_0 rfl op_3
theorem dX3_takeWave_6 : decode cX3_takeWave 6 = .ok (.istore_n 3, 1) := dc0 (j := 6) sX3_takeWave_0 rfl op_62
theorem dX3_takeWave_7 : decode cX3_takeWave 7 = .ok (.iload_n 3, 1) := dc0 (j := 7) sX3_takeWave_0 rfl op_29
theorem dX3_takeWave_8 : decode cX3_takeWave 8 = .ok (.bipush 10, 2) := dcSp (j := 8) (a := 10) (f := Instr.bipush) sX3_takeWave_0 rfl op_16 rfl
theorem dX3_takeWave_10 : decode cX3_takeWave 10 = .ok (.if_icmp .ge 27, 3) := dcTp (j := 10) (v := 27) (f := Instr.if_icmp .ge) sX3_takeWave_0 rfl op_162 rfl rfl
theorem dX3_takeWave_13 : decode cX3_takeWave 13 = .ok (.aload_n 0, 1) := dc0 (j := 13) sX3_takeWave_0 rfl op_42
theorem dX3_takeWave_14 : decode cX3_takeWave 14 = .ok (.getfield 15, 3) := dcB (j := 14) (f := Instr.getfield) sX3_takeWave_0 rfl op_180 rfl
theorem dX3_takeWave_17 : decode cX3_takeWave 17 = .ok (.iload_n 3, 1) := dc0 (j := 17) sX3_takeWave_0 rfl op_29
theorem dX3_takeWave_18 : decode cX3_takeWave 18 = .ok (.iconst 1, 1) := dc0 (j := 18) sX3_takeWave_0 rfl op_4
theorem dX3_takeWave_19 : decode cX3_takeWave 19 = .ok (.iload_n 3, 1) := dc0 (j := 19) sX3_takeWave_0 rfl op_29
theorem dX3_takeWave_20 : decode cX3_takeWave 20 = .ok (.iload_n 2, 1) := dc0 (j := 20) sX3_takeWave_0 rfl op_28
theorem dX3_takeWave_21 : decode cX3_takeWave 21 = .ok (.imul, 1) := dc0 (j := 21) sX3_takeWave_0 rfl op_104
theorem dX3_takeWave_22 : decode cX3_takeWave 22 = .ok (.aload_n 0, 1) := dc0 (j := 22) sX3_takeWave_0 rfl op_42
theorem dX3_takeWave_23 : decode cX3_takeWave 23 = .ok (.getfield 21, 3) := dcB (j := 23) (f := Instr.getfield) sX3_takeWave_0 rfl op_180 rfl
theorem dX3_takeWave_26 : decode cX3_takeWave 26 = .ok (.invokestatic 35, 3) := dcB (j := 26) (f := Instr.invokestatic) sX3_takeWave_0 rfl op_184 rfl
theorem dX3_takeWave_29 : decode cX3_takeWave 29 = .ok (.ishl, 1) := dc0 (j := 29) sX3_takeWave_0 rfl op_120
theorem dX3_takeWave_30 : decode cX3_takeWave 30 = .ok (.iastore, 1) := dc0 (j := 30) sX3_takeWave_0 rfl op_79
theorem dX3_takeWave_31 : decode cX3_takeWave 31 = .ok (.iinc 3 1, 3) := dcIp (j := 31) sX3_takeWave_0 rfl op_132 rfl
theorem sX3_takeWave_34 : sgm cX3_takeWave 34 [167, 255, 229, 177] := by decide +kernel
theorem dX3_takeWave_34 : decode cX3_takeWave 34 = .ok (.goto (-27), 3) := dcTn (j := 0) (v := 27) (f := Instr.goto) sX3_takeWave_34 rfl op_167 rfl rfl rfl
theorem dX3_takeWave_37 : decode cX3_takeWave 37 = .ok (.return_, 1) := dc0 (j := 3) sX3_takeWave_34 rfl op_177
theorem sX3_everyTime_0 : sgm cX3_everyTime 0 [4, 42, 180, 0, 21, 120, 4, 100, 172] := by decide +kernel
theorem dX3_everyTime_0 : decode cX3_everyTime 0 = .ok (.iconst 1, 1) := dc0 (j := 0) sX3_everyTime_0 rfl op_4
theorem dX3_everyTime_1 : decode cX3_everyTime 1 = .ok (.aload_n 0, 1) := dc0 (j := 1) sX3_everyTime_0 rfl op_42
theorem dX3_everyTime_2 : decode cX3_everyTime 2 = .ok (.getfield 21, 3) := dcB (j := 2) (f := Instr.getfield) sX3_everyTime_0 rfl op_180 rfl
theorem dX3_everyTime_5 : decode cX3_everyTime 5 = .ok (.ishl, 1) := dc0 (j := 5) sX3_everyTime_0 rfl op_120
theorem dX3_everyTime_6 : decode cX3_everyTime 6 = .ok (.iconst 1, 1) := dc0 (j := 6) sX3_everyTime_0 rfl op_4
theorem dX3_everyTime_7 : decode cX3_everyTime 7 = .ok (.isub, 1) := dc0 (j := 7) sX3_everyTime_0 rfl op_100
theorem dX3_everyTime_8 : decode cX3_everyTime 8 = .ok (.ireturn, 1) := dc0 (j := 8) sX3_everyTime_0 rfl op_172
theorem sX3_judgeOn_0 : sgm cX3_judgeOn 0 [42, 2, 181, 0, 41, 42, 2, 181, 0, 44, 3, 61, 28, 43, 180, 0, 47, 162, 0, 47, 42, 43, 28, 182, 0, 52, 62, 29, 2, 159, 0, 29, 42, 180, 0, 41] := by decide +kernel
theorem dX3_judgeOn_0 : decode cX3_judgeOn 0 = .ok (.aload_n 0, 1) := dc0 (j := 0) sX3_judgeOn_0 rfl op_42
theorem dX3_judgeOn_1 : decode cX3_judgeOn 1 = .ok (.iconst (-1), 1) := dc0 (j := 1) sX3_judgeOn_0 rfl op_2
theorem dX3_judgeOn_2 : decode cX3_judgeOn 2 = .ok (.putfield 41, 3) := dcB (j := 2) (f := Instr.putfield) sX3_judgeOn_0 rfl op_181 rfl
theorem dX3_judgeOn_5 : decode cX3_judgeOn 5 = .ok (.aload_n 0, 1) := dc0 (j := 5) sX3_judgeOn_0 rfl op_42
theorem dX3_judgeOn_6 : decode cX3_judgeOn 6 = .ok (.iconst (-1), 1) := dc0 (j := 6) sX3_judgeOn_0 rfl op_2
theorem dX3_judgeOn_7 : decode cX3_judgeOn 7 = .ok (.putfield 44, 3) := dcB (j := 7) (f := Instr.putfield) sX3_judgeOn_0 rfl op_181 rfl
theorem dX3_judgeOn_10 : decode cX3_judgeOn 10 = .ok (.iconst 0, 1) := dc0 (j := 10) sX3_judgeOn_0 rfl op_3
theorem dX3_judgeOn_11 : decode cX3_judgeOn 11 = .ok (.istore_n 2, 1) := dc0 (j := 11) sX3_judgeOn_0 rfl op_61
theorem dX3_judgeOn_12 : decode cX3_judgeOn 12 = .ok (.iload_n 2, 1) := dc0 (j := 12) sX3_judgeOn_0 rfl op_28
theorem dX3_judgeOn_13 : decode cX3_judgeOn 13 = .ok (.aload_n 1, 1) := dc0 (j := 13) sX3_judgeOn_0 rfl op_43
theorem dX3_judgeOn_14 : decode cX3_judgeOn 14 = .ok (.getfield 47, 3) := dcB (j := 14) (f := Instr.getfield) sX3_judgeOn_0 rfl op_180 rfl
theorem dX3_judgeOn_17 : decode cX3_judgeOn 17 = .ok (.if_icmp .ge 47, 3) := dcTp (j := 17) (v := 47) (f := Instr.if_icmp .ge) sX3_judgeOn_0 rfl op_162 rfl rfl
theorem dX3_judgeOn_20 : decode cX3_judgeOn 20 = .ok (.aload_n 0, 1) := dc0 (j := 20) sX3_judgeOn_0 rfl op_42
theorem dX3_judgeOn_21 : decode cX3_judgeOn 21 = .ok (.aload_n 1, 1) := dc0 (j := 21) sX3_judgeOn_0 rfl op_43
theorem dX3_judgeOn_22 : decode cX3_judgeOn 22 = .ok (.iload_n 2, 1) := dc0 (j := 22) sX3_judgeOn_0 rfl op_28
theorem dX3_judgeOn_23 : decode cX3_judgeOn 23 = .ok (.invokevirtual 52, 3) := dcB (j := 23) (f := Instr.invokevirtual) sX3_judgeOn_0 rfl op_182 rfl
theorem dX3_judgeOn_26 : decode cX3_judgeOn 26 = .ok (.istore_n 3, 1) := dc0 (j := 26) sX3_judgeOn_0 rfl op_62
theorem dX3_judgeOn_27 : decode cX3_judgeOn 27 = .ok (.iload_n 3, 1) := dc0 (j := 27) sX3_judgeOn_0 rfl op_29
theorem dX3_judgeOn_28 : decode cX3_judgeOn 28 = .ok (.iconst (-1), 1) := dc0 (j := 28) sX3_judgeOn_0 rfl op_2
theorem dX3_judgeOn_29 : decode cX3_judgeOn 29 = .ok (.if_icmp .eq 29, 3) := dcTp (j := 29) (v := 29) (f := Instr.if_icmp .eq) sX3_judgeOn_0 rfl op_159 rfl rfl
theorem dX3_judgeOn_32 : decode cX3_judgeOn 32 = .ok (.aload_n 0, 1) := dc0 (j := 32) sX3_judgeOn_0 rfl op_42
theorem dX3_judgeOn_33 : decode cX3_judgeOn 33 = .ok (.getfield 41, 3) := dcB (j := 33) (f := Instr.getfield) sX3_judgeOn_0 rfl op_180 rfl
theorem sX3_judgeOn_36 : sgm cX3_judgeOn 36 [2, 159, 0, 11, 29, 42, 180, 0, 41, 162, 0, 13, 42, 29, 181, 0, 41, 42, 28, 181, 0, 44, 132, 2, 1, 167, 255, 207, 177] := by decide +kernel
theorem dX3_judgeOn_36 : decode cX3_judgeOn 36 = .ok (.iconst (-1), 1) := dc0 (j := 0) sX3_judgeOn_36 rfl op_2
theorem dX3_judgeOn_37 : decode cX3_judgeOn 37 = .ok (.if_icmp .eq 11, 3) := dcTp (j := 1) (v := 11) (f := Instr.if_icmp .eq) sX3_judgeOn_36 rfl op_159 rfl rfl
theorem dX3_judgeOn_40 : decode cX3_judgeOn 40 = .ok (.iload_n 3, 1) := dc0 (j := 4) sX3_judgeOn_36 rfl op_29
theorem dX3_judgeOn_41 : decode cX3_judgeOn 41 = .ok (.aload_n 0, 1) := dc0 (j := 5) sX3_judgeOn_36 rfl op_42
theorem dX3_judgeOn_42 : decode cX3_judgeOn 42 = .ok (.getfield 41, 3) := dcB (j := 6) (f := Instr.getfield) sX3_judgeOn_36 rfl op_180 rfl
theorem dX3_judgeOn_45 : decode cX3_judgeOn 45 = .ok (.if_icmp .ge 13, 3) := dcTp (j := 9) (v := 13) (f := Instr.if_icmp .ge) sX3_judgeOn_36 rfl op_162 rfl rfl
theorem dX3_judgeOn_48 : decode cX3_judgeOn 48 = .ok (.aload_n 0, 1) := dc0 (j := 12) sX3_judgeOn_36 rfl op_42
theorem dX3_judgeOn_49 : decode cX3_judgeOn 49 = .ok (.iload_n 3, 1) := dc0 (j := 13) sX3_judgeOn_36 rfl op_29
theorem dX3_judgeOn_50 : decode cX3_judgeOn 50 = .ok (.putfield 41, 3) := dcB (j := 14) (f := Instr.putfield) sX3_judgeOn_36 rfl op_181 rfl
theorem dX3_judgeOn_53 : decode cX3_judgeOn 53 = .ok (.aload_n 0, 1) := dc0 (j := 17) sX3_judgeOn_36 rfl op_42
theorem dX3_judgeOn_54 : decode cX3_judgeOn 54 = .ok (.iload_n 2, 1) := dc0 (j := 18) sX3_judgeOn_36 rfl op_28
theorem dX3_judgeOn_55 : decode cX3_judgeOn 55 = .ok (.putfield 44, 3) := dcB (j := 19) (f := Instr.putfield) sX3_judgeOn_36 rfl op_181 rfl
theorem dX3_judgeOn_58 : decode cX3_judgeOn 58 = .ok (.iinc 2 1, 3) := dcIp (j := 22) sX3_judgeOn_36 rfl op_132 rfl
theorem dX3_judgeOn_61 : decode cX3_judgeOn 61 = .ok (.goto (-49), 3) := dcTn (j := 25) (v := 49) (f := Instr.goto) sX3_judgeOn_36 rfl op_167 rfl rfl rfl
theorem dX3_judgeOn_64 : decode cX3_judgeOn 64 = .ok (.return_, 1) := dc0 (j := 28) sX3_judgeOn_36 rfl op_177
theorem sX3_holdAll_0 : sgm cX3_holdAll 0 [3, 61, 28, 43, 180, 0, 47, 162, 0, 21, 42, 43, 28, 182, 0, 52, 2, 159, 0, 5, 3, 172, 132, 2, 1, 167, 255, 233, 4, 172] := by decide +kernel
theorem dX3_holdAll_0 : decode cX3_holdAll 0 = .ok (.iconst 0, 1) := dc0 (j := 0) sX3_holdAll_0 rfl op_3
theorem dX3_holdAll_1 : decode cX3_holdAll 1 = .ok (.istore_n 2, 1) := dc0 (j := 1) sX3_holdAll_0 rfl op_61
theorem dX3_holdAll_2 : decode cX3_holdAll 2 = .ok (.iload_n 2, 1) := dc0 (j := 2) sX3_holdAll_0 rfl op_28
theorem dX3_holdAll_3 : decode cX3_holdAll 3 = .ok (.aload_n 1, 1) := dc0 (j := 3) sX3_holdAll_0 rfl op_43
theorem dX3_holdAll_4 : decode cX3_holdAll 4 = .ok (.getfield 47, 3) := dcB (j := 4) (f := Instr.getfield) sX3_holdAll_0 rfl op_180 rfl
theorem dX3_holdAll_7 : decode cX3_holdAll 7 = .ok (.if_icmp .ge 21, 3) := dcTp (j := 7) (v := 21) (f := Instr.if_icmp .ge) sX3_holdAll_0 rfl op_162 rfl rfl
theorem dX3_holdAll_10 : decode cX3_holdAll 10 = .ok (.aload_n 0, 1) := dc0 (j := 10) sX3_holdAll_0 rfl op_42
theorem dX3_holdAll_11 : decode cX3_holdAll 11 = .ok (.aload_n 1, 1) := dc0 (j := 11) sX3_holdAll_0 rfl op_43
theorem dX3_holdAll_12 : decode cX3_holdAll 12 = .ok (.iload_n 2, 1) := dc0 (j := 12) sX3_holdAll_0 rfl op_28
theorem dX3_holdAll_13 : decode cX3_holdAll 13 = .ok (.invokevirtual 52, 3) := dcB (j := 13) (f := Instr.invokevirtual) sX3_holdAll_0 rfl op_182 rfl
theorem dX3_holdAll_16 : decode cX3_holdAll 16 = .ok (.iconst (-1), 1) := dc0 (j := 16) sX3_holdAll_0 rfl op_2
theorem dX3_holdAll_17 : decode cX3_holdAll 17 = .ok (.if_icmp .eq 5, 3) := dcTp (j := 17) (v := 5) (f := Instr.if_icmp .eq) sX3_holdAll_0 rfl op_159 rfl rfl
theorem dX3_holdAll_20 : decode cX3_holdAll 20 = .ok (.iconst 0, 1) := dc0 (j := 20) sX3_holdAll_0 rfl op_3
theorem dX3_holdAll_21 : decode cX3_holdAll 21 = .ok (.ireturn, 1) := dc0 (j := 21) sX3_holdAll_0 rfl op_172
theorem dX3_holdAll_22 : decode cX3_holdAll 22 = .ok (.iinc 2 1, 3) := dcIp (j := 22) sX3_holdAll_0 rfl op_132 rfl
theorem dX3_holdAll_25 : decode cX3_holdAll 25 = .ok (.goto (-23), 3) := dcTn (j := 25) (v := 23) (f := Instr.goto) sX3_holdAll_0 rfl op_167 rfl rfl rfl
theorem dX3_holdAll_28 : decode cX3_holdAll 28 = .ok (.iconst 1, 1) := dc0 (j := 28) sX3_holdAll_0 rfl op_4
theorem dX3_holdAll_29 : decode cX3_holdAll 29 = .ok (.ireturn, 1) := dc0 (j := 29) sX3_holdAll_0 rfl op_172
theorem sX3_breaksBehind_0 : sgm cX3_breaksBehind 0 [42, 43, 28, 182, 0, 56, 43, 180, 0, 60, 28, 46, 62, 3, 54, 4, 21, 4, 17, 0, 201, 163, 0, 73, 29, 54, 5, 3, 54, 6, 21, 6, 42, 180, 0, 21] := by decide +kernel
theorem dX3_breaksBehind_0 : decode cX3_breaksBehind 0 = .ok (.aload_n 0, 1) := dc0 (j := 0) sX3_breaksBehind_0 rfl op_42
theorem dX3_breaksBehind_1 : decode cX3_breaksBehind 1 = .ok (.aload_n 1, 1) := dc0 (j := 1) sX3_breaksBehind_0 rfl op_43
theorem dX3_breaksBehind_2 : decode cX3_breaksBehind 2 = .ok (.iload_n 2, 1) := dc0 (j := 2) sX3_breaksBehind_0 rfl op_28
theorem dX3_breaksBehind_3 : decode cX3_breaksBehind 3 = .ok (.invokevirtual 56, 3) := dcB (j := 3) (f := Instr.invokevirtual) sX3_breaksBehind_0 rfl op_182 rfl
theorem dX3_breaksBehind_6 : decode cX3_breaksBehind 6 = .ok (.aload_n 1, 1) := dc0 (j := 6) sX3_breaksBehind_0 rfl op_43
theorem dX3_breaksBehind_7 : decode cX3_breaksBehind 7 = .ok (.getfield 60, 3) := dcB (j := 7) (f := Instr.getfield) sX3_breaksBehind_0 rfl op_180 rfl
theorem dX3_breaksBehind_10 : decode cX3_breaksBehind 10 = .ok (.iload_n 2, 1) := dc0 (j := 10) sX3_breaksBehind_0 rfl op_28
theorem dX3_breaksBehind_11 : decode cX3_breaksBehind 11 = .ok (.iaload, 1) := dc0 (j := 11) sX3_breaksBehind_0 rfl op_46
theorem dX3_breaksBehind_12 : decode cX3_breaksBehind 12 = .ok (.istore_n 3, 1) := dc0 (j := 12) sX3_breaksBehind_0 rfl op_62
theorem dX3_breaksBehind_13 : decode cX3_breaksBehind 13 = .ok (.iconst 0, 1) := dc0 (j := 13) sX3_breaksBehind_0 rfl op_3
theorem dX3_breaksBehind_14 : decode cX3_breaksBehind 14 = .ok (.istore 4, 2) := dcA (j := 14) (f := Instr.istore) sX3_breaksBehind_0 rfl op_54
theorem dX3_breaksBehind_16 : decode cX3_breaksBehind 16 = .ok (.iload 4, 2) := dcA (j := 16) (f := Instr.iload) sX3_breaksBehind_0 rfl op_21
theorem dX3_breaksBehind_18 : decode cX3_breaksBehind 18 = .ok (.sipush 201, 3) := dcTp (j := 18) (v := 201) (f := Instr.sipush) sX3_breaksBehind_0 rfl op_17 rfl rfl
theorem dX3_breaksBehind_21 : decode cX3_breaksBehind 21 = .ok (.if_icmp .gt 73, 3) := dcTp (j := 21) (v := 73) (f := Instr.if_icmp .gt) sX3_breaksBehind_0 rfl op_163 rfl rfl
theorem dX3_breaksBehind_24 : decode cX3_breaksBehind 24 = .ok (.iload_n 3, 1) := dc0 (j := 24) sX3_breaksBehind_0 rfl op_29
theorem dX3_breaksBehind_25 : decode cX3_breaksBehind 25 = .ok (.istore 5, 2) := dcA (j := 25) (f := Instr.istore) sX3_breaksBehind_0 rfl op_54
theorem dX3_breaksBehind_27 : decode cX3_breaksBehind 27 = .ok (.iconst 0, 1) := dc0 (j := 27) sX3_breaksBehind_0 rfl op_3
theorem dX3_breaksBehind_28 : decode cX3_breaksBehind 28 = .ok (.istore 6, 2) := dcA (j := 28) (f := Instr.istore) sX3_breaksBehind_0 rfl op_54
theorem dX3_breaksBehind_30 : decode cX3_breaksBehind 30 = .ok (.iload 6, 2) := dcA (j := 30) (f := Instr.iload) sX3_breaksBehind_0 rfl op_21
theorem dX3_breaksBehind_32 : decode cX3_breaksBehind 32 = .ok (.aload_n 0, 1) := dc0 (j := 32) sX3_breaksBehind_0 rfl op_42
theorem dX3_breaksBehind_33 : decode cX3_breaksBehind 33 = .ok (.getfield 21, 3) := dcB (j := 33) (f := Instr.getfield) sX3_breaksBehind_0 rfl op_180 rfl
theorem sX3_breaksBehind_36 : sgm cX3_breaksBehind 36 [162, 0, 44, 29, 42, 180, 0, 18, 21, 6, 46, 96, 184, 0, 63, 62, 43, 28, 29, 182, 0, 67, 154, 0, 16, 21, 4, 42, 180, 0, 21, 104, 21, 6, 96, 4] := by decide +kernel
theorem dX3_breaksBehind_36 : decode cX3_breaksBehind 36 = .ok (.if_icmp .ge 44, 3) := dcTp (j := 0) (v := 44) (f := Instr.if_icmp .ge) sX3_breaksBehind_36 rfl op_162 rfl rfl
theorem dX3_breaksBehind_39 : decode cX3_breaksBehind 39 = .ok (.iload_n 3, 1) := dc0 (j := 3) sX3_breaksBehind_36 rfl op_29
theorem dX3_breaksBehind_40 : decode cX3_breaksBehind 40 = .ok (.aload_n 0, 1) := dc0 (j := 4) sX3_breaksBehind_36 rfl op_42
theorem dX3_breaksBehind_41 : decode cX3_breaksBehind 41 = .ok (.getfield 18, 3) := dcB (j := 5) (f := Instr.getfield) sX3_breaksBehind_36 rfl op_180 rfl
theorem dX3_breaksBehind_44 : decode cX3_breaksBehind 44 = .ok (.iload 6, 2) := dcA (j := 8) (f := Instr.iload) sX3_breaksBehind_36 rfl op_21
theorem dX3_breaksBehind_46 : decode cX3_breaksBehind 46 = .ok (.iaload, 1) := dc0 (j := 10) sX3_breaksBehind_36 rfl op_46
theorem dX3_breaksBehind_47 : decode cX3_breaksBehind 47 = .ok (.iadd, 1) := dc0 (j := 11) sX3_breaksBehind_36 rfl op_96
theorem dX3_breaksBehind_48 : decode cX3_breaksBehind 48 = .ok (.invokestatic 63, 3) := dcB (j := 12) (f := Instr.invokestatic) sX3_breaksBehind_36 rfl op_184 rfl
theorem dX3_breaksBehind_51 : decode cX3_breaksBehind 51 = .ok (.istore_n 3, 1) := dc0 (j := 15) sX3_breaksBehind_36 rfl op_62
theorem dX3_breaksBehind_52 : decode cX3_breaksBehind 52 = .ok (.aload_n 1, 1) := dc0 (j := 16) sX3_breaksBehind_36 rfl op_43
theorem dX3_breaksBehind_53 : decode cX3_breaksBehind 53 = .ok (.iload_n 2, 1) := dc0 (j := 17) sX3_breaksBehind_36 rfl op_28
theorem dX3_breaksBehind_54 : decode cX3_breaksBehind 54 = .ok (.iload_n 3, 1) := dc0 (j := 18) sX3_breaksBehind_36 rfl op_29
theorem dX3_breaksBehind_55 : decode cX3_breaksBehind 55 = .ok (.invokevirtual 67, 3) := dcB (j := 19) (f := Instr.invokevirtual) sX3_breaksBehind_36 rfl op_182 rfl
theorem dX3_breaksBehind_58 : decode cX3_breaksBehind 58 = .ok (.ifCond .ne 16, 3) := dcTp (j := 22) (v := 16) (f := Instr.ifCond .ne) sX3_breaksBehind_36 rfl op_154 rfl rfl
theorem dX3_breaksBehind_61 : decode cX3_breaksBehind 61 = .ok (.iload 4, 2) := dcA (j := 25) (f := Instr.iload) sX3_breaksBehind_36 rfl op_21
theorem dX3_breaksBehind_63 : decode cX3_breaksBehind 63 = .ok (.aload_n 0, 1) := dc0 (j := 27) sX3_breaksBehind_36 rfl op_42
theorem dX3_breaksBehind_64 : decode cX3_breaksBehind 64 = .ok (.getfield 21, 3) := dcB (j := 28) (f := Instr.getfield) sX3_breaksBehind_36 rfl op_180 rfl
theorem dX3_breaksBehind_67 : decode cX3_breaksBehind 67 = .ok (.imul, 1) := dc0 (j := 31) sX3_breaksBehind_36 rfl op_104
theorem dX3_breaksBehind_68 : decode cX3_breaksBehind 68 = .ok (.iload 6, 2) := dcA (j := 32) (f := Instr.iload) sX3_breaksBehind_36 rfl op_21
theorem dX3_breaksBehind_70 : decode cX3_breaksBehind 70 = .ok (.iadd, 1) := dc0 (j := 34) sX3_breaksBehind_36 rfl op_96
theorem dX3_breaksBehind_71 : decode cX3_breaksBehind 71 = .ok (.iconst 1, 1) := dc0 (j := 35) sX3_breaksBehind_36 rfl op_4
theorem sX3_breaksBehind_72 : sgm cX3_breaksBehind 72 [96, 172, 132, 6, 1, 167, 255, 209, 29, 21, 5, 160, 0, 5, 2, 172, 132, 4, 1, 167, 255, 181, 2, 172] := by decide +kernel
theorem dX3_breaksBehind_72 : decode cX3_breaksBehind 72 = .ok (.iadd, 1) := dc0 (j := 0) sX3_breaksBehind_72 rfl op_96
theorem dX3_breaksBehind_73 : decode cX3_breaksBehind 73 = .ok (.ireturn, 1) := dc0 (j := 1) sX3_breaksBehind_72 rfl op_172
theorem dX3_breaksBehind_74 : decode cX3_breaksBehind 74 = .ok (.iinc 6 1, 3) := dcIp (j := 2) sX3_breaksBehind_72 rfl op_132 rfl
theorem dX3_breaksBehind_77 : decode cX3_breaksBehind 77 = .ok (.goto (-47), 3) := dcTn (j := 5) (v := 47) (f := Instr.goto) sX3_breaksBehind_72 rfl op_167 rfl rfl rfl
theorem dX3_breaksBehind_80 : decode cX3_breaksBehind 80 = .ok (.iload_n 3, 1) := dc0 (j := 8) sX3_breaksBehind_72 rfl op_29
theorem dX3_breaksBehind_81 : decode cX3_breaksBehind 81 = .ok (.iload 5, 2) := dcA (j := 9) (f := Instr.iload) sX3_breaksBehind_72 rfl op_21
theorem dX3_breaksBehind_83 : decode cX3_breaksBehind 83 = .ok (.if_icmp .ne 5, 3) := dcTp (j := 11) (v := 5) (f := Instr.if_icmp .ne) sX3_breaksBehind_72 rfl op_160 rfl rfl
theorem dX3_breaksBehind_86 : decode cX3_breaksBehind 86 = .ok (.iconst (-1), 1) := dc0 (j := 14) sX3_breaksBehind_72 rfl op_2
theorem dX3_breaksBehind_87 : decode cX3_breaksBehind 87 = .ok (.ireturn, 1) := dc0 (j := 15) sX3_breaksBehind_72 rfl op_172
theorem dX3_breaksBehind_88 : decode cX3_breaksBehind 88 = .ok (.iinc 4 1, 3) := dcIp (j := 16) sX3_breaksBehind_72 rfl op_132 rfl
theorem dX3_breaksBehind_91 : decode cX3_breaksBehind 91 = .ok (.goto (-75), 3) := dcTn (j := 19) (v := 75) (f := Instr.goto) sX3_breaksBehind_72 rfl op_167 rfl rfl rfl
theorem dX3_breaksBehind_94 : decode cX3_breaksBehind 94 = .ok (.iconst (-1), 1) := dc0 (j := 22) sX3_breaksBehind_72 rfl op_2
theorem dX3_breaksBehind_95 : decode cX3_breaksBehind 95 = .ok (.ireturn, 1) := dc0 (j := 23) sX3_breaksBehind_72 rfl op_172
theorem sX3_weighChanges_0 : sgm cX3_weighChanges 0 [3, 62, 29, 42, 180, 0, 21, 162, 0, 22, 42, 180, 0, 18, 29, 43, 180, 0, 71, 28, 46, 116, 79, 132, 3, 1, 167, 255, 232, 3, 62, 29, 43, 180, 0, 47] := by decide +kernel
theorem dX3_weighChanges_0 : decode cX3_weighChanges 0 = .ok (.iconst 0, 1) := dc0 (j := 0) sX3_weighChanges_0 rfl op_3
theorem dX3_weighChanges_1 : decode cX3_weighChanges 1 = .ok (.istore_n 3, 1) := dc0 (j := 1) sX3_weighChanges_0 rfl op_62
theorem dX3_weighChanges_2 : decode cX3_weighChanges 2 = .ok (.iload_n 3, 1) := dc0 (j := 2) sX3_weighChanges_0 rfl op_29
theorem dX3_weighChanges_3 : decode cX3_weighChanges 3 = .ok (.aload_n 0, 1) := dc0 (j := 3) sX3_weighChanges_0 rfl op_42
theorem dX3_weighChanges_4 : decode cX3_weighChanges 4 = .ok (.getfield 21, 3) := dcB (j := 4) (f := Instr.getfield) sX3_weighChanges_0 rfl op_180 rfl
theorem dX3_weighChanges_7 : decode cX3_weighChanges 7 = .ok (.if_icmp .ge 22, 3) := dcTp (j := 7) (v := 22) (f := Instr.if_icmp .ge) sX3_weighChanges_0 rfl op_162 rfl rfl
theorem dX3_weighChanges_10 : decode cX3_weighChanges 10 = .ok (.aload_n 0, 1) := dc0 (j := 10) sX3_weighChanges_0 rfl op_42
theorem dX3_weighChanges_11 : decode cX3_weighChanges 11 = .ok (.getfield 18, 3) := dcB (j := 11) (f := Instr.getfield) sX3_weighChanges_0 rfl op_180 rfl
theorem dX3_weighChanges_14 : decode cX3_weighChanges 14 = .ok (.iload_n 3, 1) := dc0 (j := 14) sX3_weighChanges_0 rfl op_29
theorem dX3_weighChanges_15 : decode cX3_weighChanges 15 = .ok (.aload_n 1, 1) := dc0 (j := 15) sX3_weighChanges_0 rfl op_43
theorem dX3_weighChanges_16 : decode cX3_weighChanges 16 = .ok (.getfield 71, 3) := dcB (j := 16) (f := Instr.getfield) sX3_weighChanges_0 rfl op_180 rfl
theorem dX3_weighChanges_19 : decode cX3_weighChanges 19 = .ok (.iload_n 2, 1) := dc0 (j := 19) sX3_weighChanges_0 rfl op_28
theorem dX3_weighChanges_20 : decode cX3_weighChanges 20 = .ok (.iaload, 1) := dc0 (j := 20) sX3_weighChanges_0 rfl op_46
theorem dX3_weighChanges_21 : decode cX3_weighChanges 21 = .ok (.ineg, 1) := dc0 (j := 21) sX3_weighChanges_0 rfl op_116
theorem dX3_weighChanges_22 : decode cX3_weighChanges 22 = .ok (.iastore, 1) := dc0 (j := 22) sX3_weighChanges_0 rfl op_79
theorem dX3_weighChanges_23 : decode cX3_weighChanges 23 = .ok (.iinc 3 1, 3) := dcIp (j := 23) sX3_weighChanges_0 rfl op_132 rfl
theorem dX3_weighChanges_26 : decode cX3_weighChanges 26 = .ok (.goto (-24), 3) := dcTn (j := 26) (v := 24) (f := Instr.goto) sX3_weighChanges_0 rfl op_167 rfl rfl rfl
theorem dX3_weighChanges_29 : decode cX3_weighChanges 29 = .ok (.iconst 0, 1) := dc0 (j := 29) sX3_weighChanges_0 rfl op_3
theorem dX3_weighChanges_30 : decode cX3_weighChanges 30 = .ok (.istore_n 3, 1) := dc0 (j := 30) sX3_weighChanges_0 rfl op_62
theorem dX3_weighChanges_31 : decode cX3_weighChanges 31 = .ok (.iload_n 3, 1) := dc0 (j := 31) sX3_weighChanges_0 rfl op_29
theorem dX3_weighChanges_32 : decode cX3_weighChanges 32 = .ok (.aload_n 1, 1) := dc0 (j := 32) sX3_weighChanges_0 rfl op_43
theorem dX3_weighChanges_33 : decode cX3_weighChanges 33 = .ok (.getfield 47, 3) := dcB (j := 33) (f := Instr.getfield) sX3_weighChanges_0 rfl op_180 rfl
theorem sX3_weighChanges_36 : sgm cX3_weighChanges 36 [162, 0, 71, 43, 180, 0, 74, 29, 46, 28, 160, 0, 55, 3, 54, 4, 21, 4, 42, 180, 0, 21, 162, 0, 43, 42, 180, 0, 18, 21, 4, 92, 46, 42] := by decide +kernel
theorem dX3_weighChanges_36 : decode cX3_weighChanges 36 = .ok (.if_icmp .ge 71, 3) := dcTp (j := 0) (v := 71) (f := Instr.if_icmp .ge) sX3_weighChanges_36 rfl op_162 rfl rfl
theorem dX3_weighChanges_39 : decode cX3_weighChanges 39 = .ok (.aload_n 1, 1) := dc0 (j := 3) sX3_weighChanges_36 rfl op_43
theorem dX3_weighChanges_40 : decode cX3_weighChanges 40 = .ok (.getfield 74, 3) := dcB (j := 4) (f := Instr.getfield) sX3_weighChanges_36 rfl op_180 rfl
theorem dX3_weighChanges_43 : decode cX3_weighChanges 43 = .ok (.iload_n 3, 1) := dc0 (j := 7) sX3_weighChanges_36 rfl op_29
theorem dX3_weighChanges_44 : decode cX3_weighChanges 44 = .ok (.iaload, 1) := dc0 (j := 8) sX3_weighChanges_36 rfl op_46
theorem dX3_weighChanges_45 : decode cX3_weighChanges 45 = .ok (.iload_n 2, 1) := dc0 (j := 9) sX3_weighChanges_36 rfl op_28
theorem dX3_weighChanges_46 : decode cX3_weighChanges 46 = .ok (.if_icmp .ne 55, 3) := dcTp (j := 10) (v := 55) (f := Instr.if_icmp .ne) sX3_weighChanges_36 rfl op_160 rfl rfl
theorem dX3_weighChanges_49 : decode cX3_weighChanges 49 = .ok (.iconst 0, 1) := dc0 (j := 13) sX3_weighChanges_36 rfl op_3
theorem dX3_weighChanges_50 : decode cX3_weighChanges 50 = .ok (.istore 4, 2) := dcA (j := 14) (f := Instr.istore) sX3_weighChanges_36 rfl op_54
theorem dX3_weighChanges_52 : decode cX3_weighChanges 52 = .ok (.iload 4, 2) := dcA (j := 16) (f := Instr.iload) sX3_weighChanges_36 rfl op_21
theorem dX3_weighChanges_54 : decode cX3_weighChanges 54 = .ok (.aload_n 0, 1) := dc0 (j := 18) sX3_weighChanges_36 rfl op_42
theorem dX3_weighChanges_55 : decode cX3_weighChanges 55 = .ok (.getfield 21, 3) := dcB (j := 19) (f := Instr.getfield) sX3_weighChanges_36 rfl op_180 rfl
theorem dX3_weighChanges_58 : decode cX3_weighChanges 58 = .ok (.if_icmp .ge 43, 3) := dcTp (j := 22) (v := 43) (f := Instr.if_icmp .ge) sX3_weighChanges_36 rfl op_162 rfl rfl
theorem dX3_weighChanges_61 : decode cX3_weighChanges 61 = .ok (.aload_n 0, 1) := dc0 (j := 25) sX3_weighChanges_36 rfl op_42
theorem dX3_weighChanges_62 : decode cX3_weighChanges 62 = .ok (.getfield 18, 3) := dcB (j := 26) (f := Instr.getfield) sX3_weighChanges_36 rfl op_180 rfl
theorem dX3_weighChanges_65 : decode cX3_weighChanges 65 = .ok (.iload 4, 2) := dcA (j := 29) (f := Instr.iload) sX3_weighChanges_36 rfl op_21
theorem dX3_weighChanges_67 : decode cX3_weighChanges 67 = .ok (.dup2, 1) := dc0 (j := 31) sX3_weighChanges_36 rfl op_92
theorem dX3_weighChanges_68 : decode cX3_weighChanges 68 = .ok (.iaload, 1) := dc0 (j := 32) sX3_weighChanges_36 rfl op_46
theorem dX3_weighChanges_69 : decode cX3_weighChanges 69 = .ok (.aload_n 0, 1) := dc0 (j := 33) sX3_weighChanges_36 rfl op_42
theorem sX3_weighChanges_70 : sgm cX3_weighChanges 70 [180, 0, 15, 29, 46, 21, 4, 184, 0, 77, 153, 0, 12, 43, 180, 0, 80, 29, 46, 167, 0, 4, 3, 96, 79, 132, 4, 1, 167, 255, 210, 132, 3, 1] := by decide +kernel
theorem dX3_weighChanges_70 : decode cX3_weighChanges 70 = .ok (.getfield 15, 3) := dcB (j := 0) (f := Instr.getfield) sX3_weighChanges_70 rfl op_180 rfl
theorem dX3_weighChanges_73 : decode cX3_weighChanges 73 = .ok (.iload_n 3, 1) := dc0 (j := 3) sX3_weighChanges_70 rfl op_29
theorem dX3_weighChanges_74 : decode cX3_weighChanges 74 = .ok (.iaload, 1) := dc0 (j := 4) sX3_weighChanges_70 rfl op_46
theorem dX3_weighChanges_75 : decode cX3_weighChanges 75 = .ok (.iload 4, 2) := dcA (j := 5) (f := Instr.iload) sX3_weighChanges_70 rfl op_21
theorem dX3_weighChanges_77 : decode cX3_weighChanges 77 = .ok (.invokestatic 77, 3) := dcB (j := 7) (f := Instr.invokestatic) sX3_weighChanges_70 rfl op_184 rfl
theorem dX3_weighChanges_80 : decode cX3_weighChanges 80 = .ok (.ifCond .eq 12, 3) := dcTp (j := 10) (v := 12) (f := Instr.ifCond .eq) sX3_weighChanges_70 rfl op_153 rfl rfl
theorem dX3_weighChanges_83 : decode cX3_weighChanges 83 = .ok (.aload_n 1, 1) := dc0 (j := 13) sX3_weighChanges_70 rfl op_43
theorem dX3_weighChanges_84 : decode cX3_weighChanges 84 = .ok (.getfield 80, 3) := dcB (j := 14) (f := Instr.getfield) sX3_weighChanges_70 rfl op_180 rfl
theorem dX3_weighChanges_87 : decode cX3_weighChanges 87 = .ok (.iload_n 3, 1) := dc0 (j := 17) sX3_weighChanges_70 rfl op_29
theorem dX3_weighChanges_88 : decode cX3_weighChanges 88 = .ok (.iaload, 1) := dc0 (j := 18) sX3_weighChanges_70 rfl op_46
theorem dX3_weighChanges_89 : decode cX3_weighChanges 89 = .ok (.goto 4, 3) := dcTp (j := 19) (v := 4) (f := Instr.goto) sX3_weighChanges_70 rfl op_167 rfl rfl
theorem dX3_weighChanges_92 : decode cX3_weighChanges 92 = .ok (.iconst 0, 1) := dc0 (j := 22) sX3_weighChanges_70 rfl op_3
theorem dX3_weighChanges_93 : decode cX3_weighChanges 93 = .ok (.iadd, 1) := dc0 (j := 23) sX3_weighChanges_70 rfl op_96
theorem dX3_weighChanges_94 : decode cX3_weighChanges 94 = .ok (.iastore, 1) := dc0 (j := 24) sX3_weighChanges_70 rfl op_79
theorem dX3_weighChanges_95 : decode cX3_weighChanges 95 = .ok (.iinc 4 1, 3) := dcIp (j := 25) sX3_weighChanges_70 rfl op_132 rfl
theorem dX3_weighChanges_98 : decode cX3_weighChanges 98 = .ok (.goto (-46), 3) := dcTn (j := 28) (v := 46) (f := Instr.goto) sX3_weighChanges_70 rfl op_167 rfl rfl rfl
theorem dX3_weighChanges_101 : decode cX3_weighChanges 101 = .ok (.iinc 3 1, 3) := dcIp (j := 31) sX3_weighChanges_70 rfl op_132 rfl
theorem sX3_weighChanges_104 : sgm cX3_weighChanges 104 [167, 255, 183, 177] := by decide +kernel
theorem dX3_weighChanges_104 : decode cX3_weighChanges 104 = .ok (.goto (-73), 3) := dcTn (j := 0) (v := 73) (f := Instr.goto) sX3_weighChanges_104 rfl op_167 rfl rfl rfl
theorem dX3_weighChanges_107 : decode cX3_weighChanges 107 = .ok (.return_, 1) := dc0 (j := 3) sX3_weighChanges_104 rfl op_177
theorem sX3_evenOnes_0 : sgm cX3_evenOnes 0 [3, 61, 3, 62, 29, 43, 180, 0, 47, 162, 0, 63, 42, 43, 29, 182, 0, 56, 3, 54, 4, 3, 54, 5, 21, 5, 42, 180, 0, 21, 162, 0, 21, 21, 4, 42] := by decide +kernel
theorem dX3_evenOnes_0 : decode cX3_evenOnes 0 = .ok (.iconst 0, 1) := dc0 (j := 0) sX3_evenOnes_0 rfl op_3
theorem dX3_evenOnes_1 : decode cX3_evenOnes 1 = .ok (.istore_n 2, 1) := dc0 (j := 1) sX3_evenOnes_0 rfl op_61
theorem dX3_evenOnes_2 : decode cX3_evenOnes 2 = .ok (.iconst 0, 1) := dc0 (j := 2) sX3_evenOnes_0 rfl op_3
theorem dX3_evenOnes_3 : decode cX3_evenOnes 3 = .ok (.istore_n 3, 1) := dc0 (j := 3) sX3_evenOnes_0 rfl op_62
theorem dX3_evenOnes_4 : decode cX3_evenOnes 4 = .ok (.iload_n 3, 1) := dc0 (j := 4) sX3_evenOnes_0 rfl op_29
theorem dX3_evenOnes_5 : decode cX3_evenOnes 5 = .ok (.aload_n 1, 1) := dc0 (j := 5) sX3_evenOnes_0 rfl op_43
theorem dX3_evenOnes_6 : decode cX3_evenOnes 6 = .ok (.getfield 47, 3) := dcB (j := 6) (f := Instr.getfield) sX3_evenOnes_0 rfl op_180 rfl
theorem dX3_evenOnes_9 : decode cX3_evenOnes 9 = .ok (.if_icmp .ge 63, 3) := dcTp (j := 9) (v := 63) (f := Instr.if_icmp .ge) sX3_evenOnes_0 rfl op_162 rfl rfl
theorem dX3_evenOnes_12 : decode cX3_evenOnes 12 = .ok (.aload_n 0, 1) := dc0 (j := 12) sX3_evenOnes_0 rfl op_42
theorem dX3_evenOnes_13 : decode cX3_evenOnes 13 = .ok (.aload_n 1, 1) := dc0 (j := 13) sX3_evenOnes_0 rfl op_43
theorem dX3_evenOnes_14 : decode cX3_evenOnes 14 = .ok (.iload_n 3, 1) := dc0 (j := 14) sX3_evenOnes_0 rfl op_29
theorem dX3_evenOnes_15 : decode cX3_evenOnes 15 = .ok (.invokevirtual 56, 3) := dcB (j := 15) (f := Instr.invokevirtual) sX3_evenOnes_0 rfl op_182 rfl
theorem dX3_evenOnes_18 : decode cX3_evenOnes 18 = .ok (.iconst 0, 1) := dc0 (j := 18) sX3_evenOnes_0 rfl op_3
theorem dX3_evenOnes_19 : decode cX3_evenOnes 19 = .ok (.istore 4, 2) := dcA (j := 19) (f := Instr.istore) sX3_evenOnes_0 rfl op_54
theorem dX3_evenOnes_21 : decode cX3_evenOnes 21 = .ok (.iconst 0, 1) := dc0 (j := 21) sX3_evenOnes_0 rfl op_3
theorem dX3_evenOnes_22 : decode cX3_evenOnes 22 = .ok (.istore 5, 2) := dcA (j := 22) (f := Instr.istore) sX3_evenOnes_0 rfl op_54
theorem dX3_evenOnes_24 : decode cX3_evenOnes 24 = .ok (.iload 5, 2) := dcA (j := 24) (f := Instr.iload) sX3_evenOnes_0 rfl op_21
theorem dX3_evenOnes_26 : decode cX3_evenOnes 26 = .ok (.aload_n 0, 1) := dc0 (j := 26) sX3_evenOnes_0 rfl op_42
theorem dX3_evenOnes_27 : decode cX3_evenOnes 27 = .ok (.getfield 21, 3) := dcB (j := 27) (f := Instr.getfield) sX3_evenOnes_0 rfl op_180 rfl
theorem dX3_evenOnes_30 : decode cX3_evenOnes 30 = .ok (.if_icmp .ge 21, 3) := dcTp (j := 30) (v := 21) (f := Instr.if_icmp .ge) sX3_evenOnes_0 rfl op_162 rfl rfl
theorem dX3_evenOnes_33 : decode cX3_evenOnes 33 = .ok (.iload 4, 2) := dcA (j := 33) (f := Instr.iload) sX3_evenOnes_0 rfl op_21
theorem dX3_evenOnes_35 : decode cX3_evenOnes 35 = .ok (.aload_n 0, 1) := dc0 (j := 35) sX3_evenOnes_0 rfl op_42
theorem sX3_evenOnes_36 : sgm cX3_evenOnes 36 [180, 0, 18, 21, 5, 46, 96, 54, 4, 132, 5, 1, 167, 255, 232, 28, 21, 4, 154, 0, 9, 4, 29, 120, 167, 0, 4, 3, 128, 61, 132, 3, 1, 167, 255, 191] := by decide +kernel
theorem dX3_evenOnes_36 : decode cX3_evenOnes 36 = .ok (.getfield 18, 3) := dcB (j := 0) (f := Instr.getfield) sX3_evenOnes_36 rfl op_180 rfl
theorem dX3_evenOnes_39 : decode cX3_evenOnes 39 = .ok (.iload 5, 2) := dcA (j := 3) (f := Instr.iload) sX3_evenOnes_36 rfl op_21
theorem dX3_evenOnes_41 : decode cX3_evenOnes 41 = .ok (.iaload, 1) := dc0 (j := 5) sX3_evenOnes_36 rfl op_46
theorem dX3_evenOnes_42 : decode cX3_evenOnes 42 = .ok (.iadd, 1) := dc0 (j := 6) sX3_evenOnes_36 rfl op_96
theorem dX3_evenOnes_43 : decode cX3_evenOnes 43 = .ok (.istore 4, 2) := dcA (j := 7) (f := Instr.istore) sX3_evenOnes_36 rfl op_54
theorem dX3_evenOnes_45 : decode cX3_evenOnes 45 = .ok (.iinc 5 1, 3) := dcIp (j := 9) sX3_evenOnes_36 rfl op_132 rfl
theorem dX3_evenOnes_48 : decode cX3_evenOnes 48 = .ok (.goto (-24), 3) := dcTn (j := 12) (v := 24) (f := Instr.goto) sX3_evenOnes_36 rfl op_167 rfl rfl rfl
theorem dX3_evenOnes_51 : decode cX3_evenOnes 51 = .ok (.iload_n 2, 1) := dc0 (j := 15) sX3_evenOnes_36 rfl op_28
theorem dX3_evenOnes_52 : decode cX3_evenOnes 52 = .ok (.iload 4, 2) := dcA (j := 16) (f := Instr.iload) sX3_evenOnes_36 rfl op_21
theorem dX3_evenOnes_54 : decode cX3_evenOnes 54 = .ok (.ifCond .ne 9, 3) := dcTp (j := 18) (v := 9) (f := Instr.ifCond .ne) sX3_evenOnes_36 rfl op_154 rfl rfl
theorem dX3_evenOnes_57 : decode cX3_evenOnes 57 = .ok (.iconst 1, 1) := dc0 (j := 21) sX3_evenOnes_36 rfl op_4
theorem dX3_evenOnes_58 : decode cX3_evenOnes 58 = .ok (.iload_n 3, 1) := dc0 (j := 22) sX3_evenOnes_36 rfl op_29
theorem dX3_evenOnes_59 : decode cX3_evenOnes 59 = .ok (.ishl, 1) := dc0 (j := 23) sX3_evenOnes_36 rfl op_120
theorem dX3_evenOnes_60 : decode cX3_evenOnes 60 = .ok (.goto 4, 3) := dcTp (j := 24) (v := 4) (f := Instr.goto) sX3_evenOnes_36 rfl op_167 rfl rfl
theorem dX3_evenOnes_63 : decode cX3_evenOnes 63 = .ok (.iconst 0, 1) := dc0 (j := 27) sX3_evenOnes_36 rfl op_3
theorem dX3_evenOnes_64 : decode cX3_evenOnes 64 = .ok (.ior, 1) := dc0 (j := 28) sX3_evenOnes_36 rfl op_128
theorem dX3_evenOnes_65 : decode cX3_evenOnes 65 = .ok (.istore_n 2, 1) := dc0 (j := 29) sX3_evenOnes_36 rfl op_61
theorem dX3_evenOnes_66 : decode cX3_evenOnes 66 = .ok (.iinc 3 1, 3) := dcIp (j := 30) sX3_evenOnes_36 rfl op_132 rfl
theorem dX3_evenOnes_69 : decode cX3_evenOnes 69 = .ok (.goto (-65), 3) := dcTn (j := 33) (v := 65) (f := Instr.goto) sX3_evenOnes_36 rfl op_167 rfl rfl rfl
theorem sX3_evenOnes_72 : sgm cX3_evenOnes 72 [28, 172] := by decide +kernel
theorem dX3_evenOnes_72 : decode cX3_evenOnes 72 = .ok (.iload_n 2, 1) := dc0 (j := 0) sX3_evenOnes_72 rfl op_28
theorem dX3_evenOnes_73 : decode cX3_evenOnes 73 = .ok (.ireturn, 1) := dc0 (j := 1) sX3_evenOnes_72 rfl op_172
theorem sX3_seekBestRound_0 : sgm cX3_seekBestRound 0 [42, 28, 181, 0, 21, 2, 62, 3, 54, 4, 21, 4, 4, 43, 180, 0, 47, 42, 180, 0, 21, 104, 120, 162, 0, 103, 21, 4, 184, 0, 83, 54, 5, 29, 2] := by decide +kernel
theorem dX3_seekBestRound_0 : decode cX3_seekBestRound 0 = .ok (.aload_n 0, 1) := dc0 (j := 0) sX3_seekBestRound_0 rfl op_42
theorem dX3_seekBestRound_1 : decode cX3_seekBestRound 1 = .ok (.iload_n 2, 1) := dc0 (j := 1) sX3_seekBestRound_0 rfl op_28
theorem dX3_seekBestRound_2 : decode cX3_seekBestRound 2 = .ok (.putfield 21, 3) := dcB (j := 2) (f := Instr.putfield) sX3_seekBestRound_0 rfl op_181 rfl
theorem dX3_seekBestRound_5 : decode cX3_seekBestRound 5 = .ok (.iconst (-1), 1) := dc0 (j := 5) sX3_seekBestRound_0 rfl op_2
theorem dX3_seekBestRound_6 : decode cX3_seekBestRound 6 = .ok (.istore_n 3, 1) := dc0 (j := 6) sX3_seekBestRound_0 rfl op_62
theorem dX3_seekBestRound_7 : decode cX3_seekBestRound 7 = .ok (.iconst 0, 1) := dc0 (j := 7) sX3_seekBestRound_0 rfl op_3
theorem dX3_seekBestRound_8 : decode cX3_seekBestRound 8 = .ok (.istore 4, 2) := dcA (j := 8) (f := Instr.istore) sX3_seekBestRound_0 rfl op_54
theorem dX3_seekBestRound_10 : decode cX3_seekBestRound 10 = .ok (.iload 4, 2) := dcA (j := 10) (f := Instr.iload) sX3_seekBestRound_0 rfl op_21
theorem dX3_seekBestRound_12 : decode cX3_seekBestRound 12 = .ok (.iconst 1, 1) := dc0 (j := 12) sX3_seekBestRound_0 rfl op_4
theorem dX3_seekBestRound_13 : decode cX3_seekBestRound 13 = .ok (.aload_n 1, 1) := dc0 (j := 13) sX3_seekBestRound_0 rfl op_43
theorem dX3_seekBestRound_14 : decode cX3_seekBestRound 14 = .ok (.getfield 47, 3) := dcB (j := 14) (f := Instr.getfield) sX3_seekBestRound_0 rfl op_180 rfl
theorem dX3_seekBestRound_17 : decode cX3_seekBestRound 17 = .ok (.aload_n 0, 1) := dc0 (j := 17) sX3_seekBestRound_0 rfl op_42
theorem dX3_seekBestRound_18 : decode cX3_seekBestRound 18 = .ok (.getfield 21, 3) := dcB (j := 18) (f := Instr.getfield) sX3_seekBestRound_0 rfl op_180 rfl
theorem dX3_seekBestRound_21 : decode cX3_seekBestRound 21 = .ok (.imul, 1) := dc0 (j := 21) sX3_seekBestRound_0 rfl op_104
theorem dX3_seekBestRound_22 : decode cX3_seekBestRound 22 = .ok (.ishl, 1) := dc0 (j := 22) sX3_seekBestRound_0 rfl op_120
theorem dX3_seekBestRound_23 : decode cX3_seekBestRound 23 = .ok (.if_icmp .ge 103, 3) := dcTp (j := 23) (v := 103) (f := Instr.if_icmp .ge) sX3_seekBestRound_0 rfl op_162 rfl rfl
theorem dX3_seekBestRound_26 : decode cX3_seekBestRound 26 = .ok (.iload 4, 2) := dcA (j := 26) (f := Instr.iload) sX3_seekBestRound_0 rfl op_21
theorem dX3_seekBestRound_28 : decode cX3_seekBestRound 28 = .ok (.invokestatic 83, 3) := dcB (j := 28) (f := Instr.invokestatic) sX3_seekBestRound_0 rfl op_184 rfl
theorem dX3_seekBestRound_31 : decode cX3_seekBestRound 31 = .ok (.istore 5, 2) := dcA (j := 31) (f := Instr.istore) sX3_seekBestRound_0 rfl op_54
theorem dX3_seekBestRound_33 : decode cX3_seekBestRound 33 = .ok (.iload_n 3, 1) := dc0 (j := 33) sX3_seekBestRound_0 rfl op_29
theorem dX3_seekBestRound_34 : decode cX3_seekBestRound 34 = .ok (.iconst (-1), 1) := dc0 (j := 34) sX3_seekBestRound_0 rfl op_2
theorem sX3_seekBestRound_35 : sgm cX3_seekBestRound 35 [159, 0, 12, 21, 5, 29, 161, 0, 6, 167, 0, 76, 3, 54, 6, 21, 6, 43, 180, 0, 47, 162, 0, 38, 42, 180, 0, 15, 21, 6, 21, 4, 43, 180, 0, 47] := by decide +kernel
theorem dX3_seekBestRound_35 : decode cX3_seekBestRound 35 = .ok (.if_icmp .eq 12, 3) := dcTp (j := 0) (v := 12) (f := Instr.if_icmp .eq) sX3_seekBestRound_35 rfl op_159 rfl rfl
theorem dX3_seekBestRound_38 : decode cX3_seekBestRound 38 = .ok (.iload 5, 2) := dcA (j := 3) (f := Instr.iload) sX3_seekBestRound_35 rfl op_21
theorem dX3_seekBestRound_40 : decode cX3_seekBestRound 40 = .ok (.iload_n 3, 1) := dc0 (j := 5) sX3_seekBestRound_35 rfl op_29
theorem dX3_seekBestRound_41 : decode cX3_seekBestRound 41 = .ok (.if_icmp .lt 6, 3) := dcTp (j := 6) (v := 6) (f := Instr.if_icmp .lt) sX3_seekBestRound_35 rfl op_161 rfl rfl
theorem dX3_seekBestRound_44 : decode cX3_seekBestRound 44 = .ok (.goto 76, 3) := dcTp (j := 9) (v := 76) (f := Instr.goto) sX3_seekBestRound_35 rfl op_167 rfl rfl
theorem dX3_seekBestRound_47 : decode cX3_seekBestRound 47 = .ok (.iconst 0, 1) := dc0 (j := 12) sX3_seekBestRound_35 rfl op_3
theorem dX3_seekBestRound_48 : decode cX3_seekBestRound 48 = .ok (.istore 6, 2) := dcA (j := 13) (f := Instr.istore) sX3_seekBestRound_35 rfl op_54
theorem dX3_seekBestRound_50 : decode cX3_seekBestRound 50 = .ok (.iload 6, 2) := dcA (j := 15) (f := Instr.iload) sX3_seekBestRound_35 rfl op_21
theorem dX3_seekBestRound_52 : decode cX3_seekBestRound 52 = .ok (.aload_n 1, 1) := dc0 (j := 17) sX3_seekBestRound_35 rfl op_43
theorem dX3_seekBestRound_53 : decode cX3_seekBestRound 53 = .ok (.getfield 47, 3) := dcB (j := 18) (f := Instr.getfield) sX3_seekBestRound_35 rfl op_180 rfl
theorem dX3_seekBestRound_56 : decode cX3_seekBestRound 56 = .ok (.if_icmp .ge 38, 3) := dcTp (j := 21) (v := 38) (f := Instr.if_icmp .ge) sX3_seekBestRound_35 rfl op_162 rfl rfl
theorem dX3_seekBestRound_59 : decode cX3_seekBestRound 59 = .ok (.aload_n 0, 1) := dc0 (j := 24) sX3_seekBestRound_35 rfl op_42
theorem dX3_seekBestRound_60 : decode cX3_seekBestRound 60 = .ok (.getfield 15, 3) := dcB (j := 25) (f := Instr.getfield) sX3_seekBestRound_35 rfl op_180 rfl
theorem dX3_seekBestRound_63 : decode cX3_seekBestRound 63 = .ok (.iload 6, 2) := dcA (j := 28) (f := Instr.iload) sX3_seekBestRound_35 rfl op_21
theorem dX3_seekBestRound_65 : decode cX3_seekBestRound 65 = .ok (.iload 4, 2) := dcA (j := 30) (f := Instr.iload) sX3_seekBestRound_35 rfl op_21
theorem dX3_seekBestRound_67 : decode cX3_seekBestRound 67 = .ok (.aload_n 1, 1) := dc0 (j := 32) sX3_seekBestRound_35 rfl op_43
theorem dX3_seekBestRound_68 : decode cX3_seekBestRound 68 = .ok (.getfield 47, 3) := dcB (j := 33) (f := Instr.getfield) sX3_seekBestRound_35 rfl op_180 rfl
theorem sX3_seekBestRound_71 : sgm cX3_seekBestRound 71 [4, 100, 21, 6, 100, 42, 180, 0, 21, 104, 122, 42, 182, 0, 31, 126, 79, 132, 6, 1, 167, 255, 215, 42, 43, 182, 0, 88, 153, 0, 21, 21, 5, 62, 42] := by decide +kernel
theorem dX3_seekBestRound_71 : decode cX3_seekBestRound 71 = .ok (.iconst 1, 1) := dc0 (j := 0) sX3_seekBestRound_71 rfl op_4
theorem dX3_seekBestRound_72 : decode cX3_seekBestRound 72 = .ok (.isub, 1) := dc0 (j := 1) sX3_seekBestRound_71 rfl op_100
theorem dX3_seekBestRound_73 : decode cX3_seekBestRound 73 = .ok (.iload 6, 2) := dcA (j := 2) (f := Instr.iload) sX3_seekBestRound_71 rfl op_21
theorem dX3_seekBestRound_75 : decode cX3_seekBestRound 75 = .ok (.isub, 1) := dc0 (j := 4) sX3_seekBestRound_71 rfl op_100
theorem dX3_seekBestRound_76 : decode cX3_seekBestRound 76 = .ok (.aload_n 0, 1) := dc0 (j := 5) sX3_seekBestRound_71 rfl op_42
theorem dX3_seekBestRound_77 : decode cX3_seekBestRound 77 = .ok (.getfield 21, 3) := dcB (j := 6) (f := Instr.getfield) sX3_seekBestRound_71 rfl op_180 rfl
theorem dX3_seekBestRound_80 : decode cX3_seekBestRound 80 = .ok (.imul, 1) := dc0 (j := 9) sX3_seekBestRound_71 rfl op_104
theorem dX3_seekBestRound_81 : decode cX3_seekBestRound 81 = .ok (.ishr, 1) := dc0 (j := 10) sX3_seekBestRound_71 rfl op_122
theorem dX3_seekBestRound_82 : decode cX3_seekBestRound 82 = .ok (.aload_n 0, 1) := dc0 (j := 11) sX3_seekBestRound_71 rfl op_42
theorem dX3_seekBestRound_83 : decode cX3_seekBestRound 83 = .ok (.invokevirtual 31, 3) := dcB (j := 12) (f := Instr.invokevirtual) sX3_seekBestRound_71 rfl op_182 rfl
theorem dX3_seekBestRound_86 : decode cX3_seekBestRound 86 = .ok (.iand, 1) := dc0 (j := 15) sX3_seekBestRound_71 rfl op_126
theorem dX3_seekBestRound_87 : decode cX3_seekBestRound 87 = .ok (.iastore, 1) := dc0 (j := 16) sX3_seekBestRound_71 rfl op_79
theorem dX3_seekBestRound_88 : decode cX3_seekBestRound 88 = .ok (.iinc 6 1, 3) := dcIp (j := 17) sX3_seekBestRound_71 rfl op_132 rfl
theorem dX3_seekBestRound_91 : decode cX3_seekBestRound 91 = .ok (.goto (-41), 3) := dcTn (j := 20) (v := 41) (f := Instr.goto) sX3_seekBestRound_71 rfl op_167 rfl rfl rfl
theorem dX3_seekBestRound_94 : decode cX3_seekBestRound 94 = .ok (.aload_n 0, 1) := dc0 (j := 23) sX3_seekBestRound_71 rfl op_42
theorem dX3_seekBestRound_95 : decode cX3_seekBestRound 95 = .ok (.aload_n 1, 1) := dc0 (j := 24) sX3_seekBestRound_71 rfl op_43
theorem dX3_seekBestRound_96 : decode cX3_seekBestRound 96 = .ok (.invokevirtual 88, 3) := dcB (j := 25) (f := Instr.invokevirtual) sX3_seekBestRound_71 rfl op_182 rfl
theorem dX3_seekBestRound_99 : decode cX3_seekBestRound 99 = .ok (.ifCond .eq 21, 3) := dcTp (j := 28) (v := 21) (f := Instr.ifCond .eq) sX3_seekBestRound_71 rfl op_153 rfl rfl
theorem dX3_seekBestRound_102 : decode cX3_seekBestRound 102 = .ok (.iload 5, 2) := dcA (j := 31) (f := Instr.iload) sX3_seekBestRound_71 rfl op_21
theorem dX3_seekBestRound_104 : decode cX3_seekBestRound 104 = .ok (.istore_n 3, 1) := dc0 (j := 33) sX3_seekBestRound_71 rfl op_62
theorem dX3_seekBestRound_105 : decode cX3_seekBestRound 105 = .ok (.aload_n 0, 1) := dc0 (j := 34) sX3_seekBestRound_71 rfl op_42
theorem sX3_seekBestRound_106 : sgm cX3_seekBestRound 106 [180, 0, 15, 3, 42, 180, 0, 9, 3, 16, 10, 184, 0, 92, 132, 4, 1, 167, 255, 143, 29, 172] := by decide +kernel
theorem dX3_seekBestRound_106 : decode cX3_seekBestRound 106 = .ok (.getfield 15, 3) := dcB (j := 0) (f := Instr.getfield) sX3_seekBestRound_106 rfl op_180 rfl
theorem dX3_seekBestRound_109 : decode cX3_seekBestRound 109 = .ok (.iconst 0, 1) := dc0 (j := 3) sX3_seekBestRound_106 rfl op_3
theorem dX3_seekBestRound_110 : decode cX3_seekBestRound 110 = .ok (.aload_n 0, 1) := dc0 (j := 4) sX3_seekBestRound_106 rfl op_42
theorem dX3_seekBestRound_111 : decode cX3_seekBestRound 111 = .ok (.getfield 9, 3) := dcB (j := 5) (f := Instr.getfield) sX3_seekBestRound_106 rfl op_180 rfl
theorem dX3_seekBestRound_114 : decode cX3_seekBestRound 114 = .ok (.iconst 0, 1) := dc0 (j := 8) sX3_seekBestRound_106 rfl op_3
theorem dX3_seekBestRound_115 : decode cX3_seekBestRound 115 = .ok (.bipush 10, 2) := dcSp (j := 9) (a := 10) (f := Instr.bipush) sX3_seekBestRound_106 rfl op_16 rfl
theorem dX3_seekBestRound_117 : decode cX3_seekBestRound 117 = .ok (.invokestatic 92, 3) := dcB (j := 11) (f := Instr.invokestatic) sX3_seekBestRound_106 rfl op_184 rfl
theorem dX3_seekBestRound_120 : decode cX3_seekBestRound 120 = .ok (.iinc 4 1, 3) := dcIp (j := 14) sX3_seekBestRound_106 rfl op_132 rfl
theorem dX3_seekBestRound_123 : decode cX3_seekBestRound 123 = .ok (.goto (-113), 3) := dcTn (j := 17) (v := 113) (f := Instr.goto) sX3_seekBestRound_106 rfl op_167 rfl rfl rfl
theorem dX3_seekBestRound_126 : decode cX3_seekBestRound 126 = .ok (.iload_n 3, 1) := dc0 (j := 20) sX3_seekBestRound_106 rfl op_29
theorem dX3_seekBestRound_127 : decode cX3_seekBestRound 127 = .ok (.ireturn, 1) := dc0 (j := 21) sX3_seekBestRound_106 rfl op_172
theorem sX4_init_0 : sgm cX4_init 0 [42, 183, 0, 5, 42, 17, 11, 185, 188, 11, 181, 0, 11, 42, 17, 32, 0, 188, 10, 181, 0, 15, 42, 6, 188, 10, 181, 0, 19, 42, 6, 188, 10, 181, 0, 22] := by decide +kernel
theorem dX4_init_0 : decode cX4_init 0 = .ok (.aload_n 0, 1) := dc0 (j := 0) sX4_init_0 rfl op_42
theorem dX4_init_1 : decode cX4_init 1 = .ok (.invokespecial 5, 3) := dcB (j := 1) (f := Instr.invokespecial) sX4_init_0 rfl op_183 rfl
theorem dX4_init_4 : decode cX4_init 4 = .ok (.aload_n 0, 1) := dc0 (j := 4) sX4_init_0 rfl op_42
theorem dX4_init_5 : decode cX4_init 5 = .ok (.sipush 3001, 3) := dcTp (j := 5) (v := 3001) (f := Instr.sipush) sX4_init_0 rfl op_17 rfl rfl
theorem dX4_init_8 : decode cX4_init 8 = .ok (.newarray .long, 2) := dcN (j := 8) sX4_init_0 rfl na_11
theorem dX4_init_10 : decode cX4_init 10 = .ok (.putfield 11, 3) := dcB (j := 10) (f := Instr.putfield) sX4_init_0 rfl op_181 rfl
theorem dX4_init_13 : decode cX4_init 13 = .ok (.aload_n 0, 1) := dc0 (j := 13) sX4_init_0 rfl op_42
theorem dX4_init_14 : decode cX4_init 14 = .ok (.sipush 8192, 3) := dcTp (j := 14) (v := 8192) (f := Instr.sipush) sX4_init_0 rfl op_17 rfl rfl
theorem dX4_init_17 : decode cX4_init 17 = .ok (.newarray .int, 2) := dcN (j := 17) sX4_init_0 rfl na_10
theorem dX4_init_19 : decode cX4_init 19 = .ok (.putfield 15, 3) := dcB (j := 19) (f := Instr.putfield) sX4_init_0 rfl op_181 rfl
theorem dX4_init_22 : decode cX4_init 22 = .ok (.aload_n 0, 1) := dc0 (j := 22) sX4_init_0 rfl op_42
theorem dX4_init_23 : decode cX4_init 23 = .ok (.iconst 3, 1) := dc0 (j := 23) sX4_init_0 rfl op_6
theorem dX4_init_24 : decode cX4_init 24 = .ok (.newarray .int, 2) := dcN (j := 24) sX4_init_0 rfl na_10
theorem dX4_init_26 : decode cX4_init 26 = .ok (.putfield 19, 3) := dcB (j := 26) (f := Instr.putfield) sX4_init_0 rfl op_181 rfl
theorem dX4_init_29 : decode cX4_init 29 = .ok (.aload_n 0, 1) := dc0 (j := 29) sX4_init_0 rfl op_42
theorem dX4_init_30 : decode cX4_init 30 = .ok (.iconst 3, 1) := dc0 (j := 30) sX4_init_0 rfl op_6
theorem dX4_init_31 : decode cX4_init 31 = .ok (.newarray .int, 2) := dcN (j := 31) sX4_init_0 rfl na_10
theorem dX4_init_33 : decode cX4_init 33 = .ok (.putfield 22, 3) := dcB (j := 33) (f := Instr.putfield) sX4_init_0 rfl op_181 rfl
theorem sX4_init_36 : sgm cX4_init 36 [42, 6, 188, 10, 181, 0, 25, 42, 16, 24, 188, 10, 181, 0, 28, 177] := by decide +kernel
theorem dX4_init_36 : decode cX4_init 36 = .ok (.aload_n 0, 1) := dc0 (j := 0) sX4_init_36 rfl op_42
theorem dX4_init_37 : decode cX4_init 37 = .ok (.iconst 3, 1) := dc0 (j := 1) sX4_init_36 rfl op_6
theorem dX4_init_38 : decode cX4_init 38 = .ok (.newarray .int, 2) := dcN (j := 2) sX4_init_36 rfl na_10
theorem dX4_init_40 : decode cX4_init 40 = .ok (.putfield 25, 3) := dcB (j := 4) (f := Instr.putfield) sX4_init_36 rfl op_181 rfl
theorem dX4_init_43 : decode cX4_init 43 = .ok (.aload_n 0, 1) := dc0 (j := 7) sX4_init_36 rfl op_42
theorem dX4_init_44 : decode cX4_init 44 = .ok (.bipush 24, 2) := dcSp (j := 8) (a := 24) (f := Instr.bipush) sX4_init_36 rfl op_16 rfl
theorem dX4_init_46 : decode cX4_init 46 = .ok (.newarray .int, 2) := dcN (j := 10) sX4_init_36 rfl na_10
theorem dX4_init_48 : decode cX4_init 48 = .ok (.putfield 28, 3) := dcB (j := 12) (f := Instr.putfield) sX4_init_36 rfl op_181 rfl
theorem dX4_init_51 : decode cX4_init 51 = .ok (.return_, 1) := dc0 (j := 15) sX4_init_36 rfl op_177
theorem sX4_minutesToEnd_0 : sgm cX4_minutesToEnd 0 [42, 180, 0, 15, 3, 184, 0, 31, 42, 3, 181, 0, 37, 42, 43, 182, 0, 41, 42, 43, 182, 0, 45, 3, 61, 4, 62, 29, 17, 11, 185, 163, 0, 113, 42] := by decide +kernel
theorem dX4_minutesToEnd_0 : decode cX4_minutesToEnd 0 = .ok (.aload_n 0, 1) := dc0 (j := 0) sX4_minutesToEnd_0 rfl op_42
theorem dX4_minutesToEnd_1 : decode cX4_minutesToEnd 1 = .ok (.getfield 15, 3) := dcB (j := 1) (f := Instr.getfield) sX4_minutesToEnd_0 rfl op_180 rfl
theorem dX4_minutesToEnd_4 : decode cX4_minutesToEnd 4 = .ok (.iconst 0, 1) := dc0 (j := 4) sX4_minutesToEnd_0 rfl op_3
theorem dX4_minutesToEnd_5 : decode cX4_minutesToEnd 5 = .ok (.invokestatic 31, 3) := dcB (j := 5) (f := Instr.invokestatic) sX4_minutesToEnd_0 rfl op_184 rfl
theorem dX4_minutesToEnd_8 : decode cX4_minutesToEnd 8 = .ok (.aload_n 0, 1) := dc0 (j := 8) sX4_minutesToEnd_0 rfl op_42
theorem dX4_minutesToEnd_9 : decode cX4_minutesToEnd 9 = .ok (.iconst 0, 1) := dc0 (j := 9) sX4_minutesToEnd_0 rfl op_3
theorem dX4_minutesToEnd_10 : decode cX4_minutesToEnd 10 = .ok (.putfield 37, 3) := dcB (j := 10) (f := Instr.putfield) sX4_minutesToEnd_0 rfl op_181 rfl
theorem dX4_minutesToEnd_13 : decode cX4_minutesToEnd 13 = .ok (.aload_n 0, 1) := dc0 (j := 13) sX4_minutesToEnd_0 rfl op_42
theorem dX4_minutesToEnd_14 : decode cX4_minutesToEnd 14 = .ok (.aload_n 1, 1) := dc0 (j := 14) sX4_minutesToEnd_0 rfl op_43
theorem dX4_minutesToEnd_15 : decode cX4_minutesToEnd 15 = .ok (.invokevirtual 41, 3) := dcB (j := 15) (f := Instr.invokevirtual) sX4_minutesToEnd_0 rfl op_182 rfl
theorem dX4_minutesToEnd_18 : decode cX4_minutesToEnd 18 = .ok (.aload_n 0, 1) := dc0 (j := 18) sX4_minutesToEnd_0 rfl op_42
theorem dX4_minutesToEnd_19 : decode cX4_minutesToEnd 19 = .ok (.aload_n 1, 1) := dc0 (j := 19) sX4_minutesToEnd_0 rfl op_43
theorem dX4_minutesToEnd_20 : decode cX4_minutesToEnd 20 = .ok (.invokevirtual 45, 3) := dcB (j := 20) (f := Instr.invokevirtual) sX4_minutesToEnd_0 rfl op_182 rfl
theorem dX4_minutesToEnd_23 : decode cX4_minutesToEnd 23 = .ok (.iconst 0, 1) := dc0 (j := 23) sX4_minutesToEnd_0 rfl op_3
theorem dX4_minutesToEnd_24 : decode cX4_minutesToEnd 24 = .ok (.istore_n 2, 1) := dc0 (j := 24) sX4_minutesToEnd_0 rfl op_61
theorem dX4_minutesToEnd_25 : decode cX4_minutesToEnd 25 = .ok (.iconst 1, 1) := dc0 (j := 25) sX4_minutesToEnd_0 rfl op_4
theorem dX4_minutesToEnd_26 : decode cX4_minutesToEnd 26 = .ok (.istore_n 3, 1) := dc0 (j := 26) sX4_minutesToEnd_0 rfl op_62
theorem dX4_minutesToEnd_27 : decode cX4_minutesToEnd 27 = .ok (.iload_n 3, 1) := dc0 (j := 27) sX4_minutesToEnd_0 rfl op_29
theorem dX4_minutesToEnd_28 : decode cX4_minutesToEnd 28 = .ok (.sipush 3001, 3) := dcTp (j := 28) (v := 3001) (f := Instr.sipush) sX4_minutesToEnd_0 rfl op_17 rfl rfl
theorem dX4_minutesToEnd_31 : decode cX4_minutesToEnd 31 = .ok (.if_icmp .gt 113, 3) := dcTp (j := 31) (v := 113) (f := Instr.if_icmp .gt) sX4_minutesToEnd_0 rfl op_163 rfl rfl
theorem dX4_minutesToEnd_34 : decode cX4_minutesToEnd 34 = .ok (.aload_n 0, 1) := dc0 (j := 34) sX4_minutesToEnd_0 rfl op_42
theorem sX4_minutesToEnd_35 : sgm cX4_minutesToEnd 35 [180, 0, 37, 54, 4, 28, 54, 5, 21, 5, 21, 4, 162, 0, 26, 42, 43, 42, 180, 0, 11, 21, 5, 47, 182, 0, 48, 153, 0, 5, 29, 172, 132, 5, 1] := by decide +kernel
theorem dX4_minutesToEnd_35 : decode cX4_minutesToEnd 35 = .ok (.getfield 37, 3) := dcB (j := 0) (f := Instr.getfield) sX4_minutesToEnd_35 rfl op_180 rfl
theorem dX4_minutesToEnd_38 : decode cX4_minutesToEnd 38 = .ok (.istore 4, 2) := dcA (j := 3) (f := Instr.istore) sX4_minutesToEnd_35 rfl op_54
theorem dX4_minutesToEnd_40 : decode cX4_minutesToEnd 40 = .ok (.iload_n 2, 1) := dc0 (j := 5) sX4_minutesToEnd_35 rfl op_28
theorem dX4_minutesToEnd_41 : decode cX4_minutesToEnd 41 = .ok (.istore 5, 2) := dcA (j := 6) (f := Instr.istore) sX4_minutesToEnd_35 rfl op_54
theorem dX4_minutesToEnd_43 : decode cX4_minutesToEnd 43 = .ok (.iload 5, 2) := dcA (j := 8) (f := Instr.iload) sX4_minutesToEnd_35 rfl op_21
theorem dX4_minutesToEnd_45 : decode cX4_minutesToEnd 45 = .ok (.iload 4, 2) := dcA (j := 10) (f := Instr.iload) sX4_minutesToEnd_35 rfl op_21
theorem dX4_minutesToEnd_47 : decode cX4_minutesToEnd 47 = .ok (.if_icmp .ge 26, 3) := dcTp (j := 12) (v := 26) (f := Instr.if_icmp .ge) sX4_minutesToEnd_35 rfl op_162 rfl rfl
theorem dX4_minutesToEnd_50 : decode cX4_minutesToEnd 50 = .ok (.aload_n 0, 1) := dc0 (j := 15) sX4_minutesToEnd_35 rfl op_42
theorem dX4_minutesToEnd_51 : decode cX4_minutesToEnd 51 = .ok (.aload_n 1, 1) := dc0 (j := 16) sX4_minutesToEnd_35 rfl op_43
theorem dX4_minutesToEnd_52 : decode cX4_minutesToEnd 52 = .ok (.aload_n 0, 1) := dc0 (j := 17) sX4_minutesToEnd_35 rfl op_42
theorem dX4_minutesToEnd_53 : decode cX4_minutesToEnd 53 = .ok (.getfield 11, 3) := dcB (j := 18) (f := Instr.getfield) sX4_minutesToEnd_35 rfl op_180 rfl
theorem dX4_minutesToEnd_56 : decode cX4_minutesToEnd 56 = .ok (.iload 5, 2) := dcA (j := 21) (f := Instr.iload) sX4_minutesToEnd_35 rfl op_21
theorem dX4_minutesToEnd_58 : decode cX4_minutesToEnd 58 = .ok (.laload, 1) := dc0 (j := 23) sX4_minutesToEnd_35 rfl op_47
theorem dX4_minutesToEnd_59 : decode cX4_minutesToEnd 59 = .ok (.invokevirtual 48, 3) := dcB (j := 24) (f := Instr.invokevirtual) sX4_minutesToEnd_35 rfl op_182 rfl
theorem dX4_minutesToEnd_62 : decode cX4_minutesToEnd 62 = .ok (.ifCond .eq 5, 3) := dcTp (j := 27) (v := 5) (f := Instr.ifCond .eq) sX4_minutesToEnd_35 rfl op_153 rfl rfl
theorem dX4_minutesToEnd_65 : decode cX4_minutesToEnd 65 = .ok (.iload_n 3, 1) := dc0 (j := 30) sX4_minutesToEnd_35 rfl op_29
theorem dX4_minutesToEnd_66 : decode cX4_minutesToEnd 66 = .ok (.ireturn, 1) := dc0 (j := 31) sX4_minutesToEnd_35 rfl op_172
theorem dX4_minutesToEnd_67 : decode cX4_minutesToEnd 67 = .ok (.iinc 5 1, 3) := dcIp (j := 32) sX4_minutesToEnd_35 rfl op_132 rfl
theorem sX4_minutesToEnd_70 : sgm cX4_minutesToEnd 70 [167, 255, 229, 28, 54, 5, 21, 5, 21, 4, 162, 0, 31, 42, 180, 0, 37, 17, 11, 184, 163, 0, 21, 42, 43, 42, 180, 0, 11, 21, 5, 47, 182, 0, 52] := by decide +kernel
theorem dX4_minutesToEnd_70 : decode cX4_minutesToEnd 70 = .ok (.goto (-27), 3) := dcTn (j := 0) (v := 27) (f := Instr.goto) sX4_minutesToEnd_70 rfl op_167 rfl rfl rfl
theorem dX4_minutesToEnd_73 : decode cX4_minutesToEnd 73 = .ok (.iload_n 2, 1) := dc0 (j := 3) sX4_minutesToEnd_70 rfl op_28
theorem dX4_minutesToEnd_74 : decode cX4_minutesToEnd 74 = .ok (.istore 5, 2) := dcA (j := 4) (f := Instr.istore) sX4_minutesToEnd_70 rfl op_54
theorem dX4_minutesToEnd_76 : decode cX4_minutesToEnd 76 = .ok (.iload 5, 2) := dcA (j := 6) (f := Instr.iload) sX4_minutesToEnd_70 rfl op_21
theorem dX4_minutesToEnd_78 : decode cX4_minutesToEnd 78 = .ok (.iload 4, 2) := dcA (j := 8) (f := Instr.iload) sX4_minutesToEnd_70 rfl op_21
theorem dX4_minutesToEnd_80 : decode cX4_minutesToEnd 80 = .ok (.if_icmp .ge 31, 3) := dcTp (j := 10) (v := 31) (f := Instr.if_icmp .ge) sX4_minutesToEnd_70 rfl op_162 rfl rfl
theorem dX4_minutesToEnd_83 : decode cX4_minutesToEnd 83 = .ok (.aload_n 0, 1) := dc0 (j := 13) sX4_minutesToEnd_70 rfl op_42
theorem dX4_minutesToEnd_84 : decode cX4_minutesToEnd 84 = .ok (.getfield 37, 3) := dcB (j := 14) (f := Instr.getfield) sX4_minutesToEnd_70 rfl op_180 rfl
theorem dX4_minutesToEnd_87 : decode cX4_minutesToEnd 87 = .ok (.sipush 3000, 3) := dcTp (j := 17) (v := 3000) (f := Instr.sipush) sX4_minutesToEnd_70 rfl op_17 rfl rfl
theorem dX4_minutesToEnd_90 : decode cX4_minutesToEnd 90 = .ok (.if_icmp .gt 21, 3) := dcTp (j := 20) (v := 21) (f := Instr.if_icmp .gt) sX4_minutesToEnd_70 rfl op_163 rfl rfl
theorem dX4_minutesToEnd_93 : decode cX4_minutesToEnd 93 = .ok (.aload_n 0, 1) := dc0 (j := 23) sX4_minutesToEnd_70 rfl op_42
theorem dX4_minutesToEnd_94 : decode cX4_minutesToEnd 94 = .ok (.aload_n 1, 1) := dc0 (j := 24) sX4_minutesToEnd_70 rfl op_43
theorem dX4_minutesToEnd_95 : decode cX4_minutesToEnd 95 = .ok (.aload_n 0, 1) := dc0 (j := 25) sX4_minutesToEnd_70 rfl op_42
theorem dX4_minutesToEnd_96 : decode cX4_minutesToEnd 96 = .ok (.getfield 11, 3) := dcB (j := 26) (f := Instr.getfield) sX4_minutesToEnd_70 rfl op_180 rfl
theorem dX4_minutesToEnd_99 : decode cX4_minutesToEnd 99 = .ok (.iload 5, 2) := dcA (j := 29) (f := Instr.iload) sX4_minutesToEnd_70 rfl op_21
theorem dX4_minutesToEnd_101 : decode cX4_minutesToEnd 101 = .ok (.laload, 1) := dc0 (j := 31) sX4_minutesToEnd_70 rfl op_47
theorem dX4_minutesToEnd_102 : decode cX4_minutesToEnd 102 = .ok (.invokevirtual 52, 3) := dcB (j := 32) (f := Instr.invokevirtual) sX4_minutesToEnd_70 rfl op_182 rfl
theorem sX4_minutesToEnd_105 : sgm cX4_minutesToEnd 105 [132, 5, 1, 167, 255, 224, 42, 180, 0, 37, 17, 11, 184, 164, 0, 6, 16, 252, 172, 42, 180, 0, 37, 21, 4, 160, 0, 5, 2, 172, 21, 4, 61, 132, 3, 1] := by decide +kernel
theorem dX4_minutesToEnd_105 : decode cX4_minutesToEnd 105 = .ok (.iinc 5 1, 3) := dcIp (j := 0) sX4_minutesToEnd_105 rfl op_132 rfl
theorem dX4_minutesToEnd_108 : decode cX4_minutesToEnd 108 = .ok (.goto (-32), 3) := dcTn (j := 3) (v := 32) (f := Instr.goto) sX4_minutesToEnd_105 rfl op_167 rfl rfl rfl
theorem dX4_minutesToEnd_111 : decode cX4_minutesToEnd 111 = .ok (.aload_n 0, 1) := dc0 (j := 6) sX4_minutesToEnd_105 rfl op_42
theorem dX4_minutesToEnd_112 : decode cX4_minutesToEnd 112 = .ok (.getfield 37, 3) := dcB (j := 7) (f := Instr.getfield) sX4_minutesToEnd_105 rfl op_180 rfl
theorem dX4_minutesToEnd_115 : decode cX4_minutesToEnd 115 = .ok (.sipush 3000, 3) := dcTp (j := 10) (v := 3000) (f := Instr.sipush) sX4_minutesToEnd_105 rfl op_17 rfl rfl
theorem dX4_minutesToEnd_118 : decode cX4_minutesToEnd 118 = .ok (.if_icmp .le 6, 3) := dcTp (j := 13) (v := 6) (f := Instr.if_icmp .le) sX4_minutesToEnd_105 rfl op_164 rfl rfl
theorem dX4_minutesToEnd_121 : decode cX4_minutesToEnd 121 = .ok (.bipush (-4), 2) := dcSn (j := 16) (v := 4) (f := Instr.bipush) sX4_minutesToEnd_105 rfl op_16 rfl rfl rfl
theorem dX4_minutesToEnd_123 : decode cX4_minutesToEnd 123 = .ok (.ireturn, 1) := dc0 (j := 18) sX4_minutesToEnd_105 rfl op_172
theorem dX4_minutesToEnd_124 : decode cX4_minutesToEnd 124 = .ok (.aload_n 0, 1) := dc0 (j := 19) sX4_minutesToEnd_105 rfl op_42
theorem dX4_minutesToEnd_125 : decode cX4_minutesToEnd 125 = .ok (.getfield 37, 3) := dcB (j := 20) (f := Instr.getfield) sX4_minutesToEnd_105 rfl op_180 rfl
theorem dX4_minutesToEnd_128 : decode cX4_minutesToEnd 128 = .ok (.iload 4, 2) := dcA (j := 23) (f := Instr.iload) sX4_minutesToEnd_105 rfl op_21
theorem dX4_minutesToEnd_130 : decode cX4_minutesToEnd 130 = .ok (.if_icmp .ne 5, 3) := dcTp (j := 25) (v := 5) (f := Instr.if_icmp .ne) sX4_minutesToEnd_105 rfl op_160 rfl rfl
theorem dX4_minutesToEnd_133 : decode cX4_minutesToEnd 133 = .ok (.iconst (-1), 1) := dc0 (j := 28) sX4_minutesToEnd_105 rfl op_2
theorem dX4_minutesToEnd_134 : decode cX4_minutesToEnd 134 = .ok (.ireturn, 1) := dc0 (j := 29) sX4_minutesToEnd_105 rfl op_172
theorem dX4_minutesToEnd_135 : decode cX4_minutesToEnd 135 = .ok (.iload 4, 2) := dcA (j := 30) (f := Instr.iload) sX4_minutesToEnd_105 rfl op_21
theorem dX4_minutesToEnd_137 : decode cX4_minutesToEnd 137 = .ok (.istore_n 2, 1) := dc0 (j := 32) sX4_minutesToEnd_105 rfl op_61
theorem dX4_minutesToEnd_138 : decode cX4_minutesToEnd 138 = .ok (.iinc 3 1, 3) := dcIp (j := 33) sX4_minutesToEnd_105 rfl op_132 rfl
theorem sX4_minutesToEnd_141 : sgm cX4_minutesToEnd 141 [167, 255, 142, 2, 172] := by decide +kernel
theorem dX4_minutesToEnd_141 : decode cX4_minutesToEnd 141 = .ok (.goto (-114), 3) := dcTn (j := 0) (v := 114) (f := Instr.goto) sX4_minutesToEnd_141 rfl op_167 rfl rfl rfl
theorem dX4_minutesToEnd_144 : decode cX4_minutesToEnd 144 = .ok (.iconst (-1), 1) := dc0 (j := 3) sX4_minutesToEnd_141 rfl op_2
theorem dX4_minutesToEnd_145 : decode cX4_minutesToEnd 145 = .ok (.ireturn, 1) := dc0 (j := 4) sX4_minutesToEnd_141 rfl op_172
theorem sX4_weighChanges_0 : sgm cX4_weighChanges 0 [3, 61, 28, 43, 182, 0, 56, 163, 0, 48, 3, 62, 29, 43, 180, 0, 62, 162, 0, 32, 42, 180, 0, 28, 6, 28, 104, 29, 96, 43, 29, 28, 182, 0, 65, 43] := by decide +kernel
theorem dX4_weighChanges_0 : decode cX4_weighChanges 0 = .ok (.iconst 0, 1) := dc0 (j := 0) sX4_weighChanges_0 rfl op_3
theorem dX4_weighChanges_1 : decode cX4_weighChanges 1 = .ok (.istore_n 2, 1) := dc0 (j := 1) sX4_weighChanges_0 rfl op_61
theorem dX4_weighChanges_2 : decode cX4_weighChanges 2 = .ok (.iload_n 2, 1) := dc0 (j := 2) sX4_weighChanges_0 rfl op_28
theorem dX4_weighChanges_3 : decode cX4_weighChanges 3 = .ok (.aload_n 1, 1) := dc0 (j := 3) sX4_weighChanges_0 rfl op_43
theorem dX4_weighChanges_4 : decode cX4_weighChanges 4 = .ok (.invokevirtual 56, 3) := dcB (j := 4) (f := Instr.invokevirtual) sX4_weighChanges_0 rfl op_182 rfl
theorem dX4_weighChanges_7 : decode cX4_weighChanges 7 = .ok (.if_icmp .gt 48, 3) := dcTp (j := 7) (v := 48) (f := Instr.if_icmp .gt) sX4_weighChanges_0 rfl op_163 rfl rfl
theorem dX4_weighChanges_10 : decode cX4_weighChanges 10 = .ok (.iconst 0, 1) := dc0 (j := 10) sX4_weighChanges_0 rfl op_3
theorem dX4_weighChanges_11 : decode cX4_weighChanges 11 = .ok (.istore_n 3, 1) := dc0 (j := 11) sX4_weighChanges_0 rfl op_62
theorem dX4_weighChanges_12 : decode cX4_weighChanges 12 = .ok (.iload_n 3, 1) := dc0 (j := 12) sX4_weighChanges_0 rfl op_29
theorem dX4_weighChanges_13 : decode cX4_weighChanges 13 = .ok (.aload_n 1, 1) := dc0 (j := 13) sX4_weighChanges_0 rfl op_43
theorem dX4_weighChanges_14 : decode cX4_weighChanges 14 = .ok (.getfield 62, 3) := dcB (j := 14) (f := Instr.getfield) sX4_weighChanges_0 rfl op_180 rfl
theorem dX4_weighChanges_17 : decode cX4_weighChanges 17 = .ok (.if_icmp .ge 32, 3) := dcTp (j := 17) (v := 32) (f := Instr.if_icmp .ge) sX4_weighChanges_0 rfl op_162 rfl rfl
theorem dX4_weighChanges_20 : decode cX4_weighChanges 20 = .ok (.aload_n 0, 1) := dc0 (j := 20) sX4_weighChanges_0 rfl op_42
theorem dX4_weighChanges_21 : decode cX4_weighChanges 21 = .ok (.getfield 28, 3) := dcB (j := 21) (f := Instr.getfield) sX4_weighChanges_0 rfl op_180 rfl
theorem dX4_weighChanges_24 : decode cX4_weighChanges 24 = .ok (.iconst 3, 1) := dc0 (j := 24) sX4_weighChanges_0 rfl op_6
theorem dX4_weighChanges_25 : decode cX4_weighChanges 25 = .ok (.iload_n 2, 1) := dc0 (j := 25) sX4_weighChanges_0 rfl op_28
theorem dX4_weighChanges_26 : decode cX4_weighChanges 26 = .ok (.imul, 1) := dc0 (j := 26) sX4_weighChanges_0 rfl op_104
theorem dX4_weighChanges_27 : decode cX4_weighChanges 27 = .ok (.iload_n 3, 1) := dc0 (j := 27) sX4_weighChanges_0 rfl op_29
theorem dX4_weighChanges_28 : decode cX4_weighChanges 28 = .ok (.iadd, 1) := dc0 (j := 28) sX4_weighChanges_0 rfl op_96
theorem dX4_weighChanges_29 : decode cX4_weighChanges 29 = .ok (.aload_n 1, 1) := dc0 (j := 29) sX4_weighChanges_0 rfl op_43
theorem dX4_weighChanges_30 : decode cX4_weighChanges 30 = .ok (.iload_n 3, 1) := dc0 (j := 30) sX4_weighChanges_0 rfl op_29
theorem dX4_weighChanges_31 : decode cX4_weighChanges 31 = .ok (.iload_n 2, 1) := dc0 (j := 31) sX4_weighChanges_0 rfl op_28
theorem dX4_weighChanges_32 : decode cX4_weighChanges 32 = .ok (.invokevirtual 65, 3) := dcB (j := 32) (f := Instr.invokevirtual) sX4_weighChanges_0 rfl op_182 rfl
theorem dX4_weighChanges_35 : decode cX4_weighChanges 35 = .ok (.aload_n 1, 1) := dc0 (j := 35) sX4_weighChanges_0 rfl op_43
theorem sX4_weighChanges_36 : sgm cX4_weighChanges 36 [180, 0, 69, 29, 46, 100, 79, 132, 3, 1, 167, 255, 222, 132, 2, 1, 167, 255, 206, 177] := by decide +kernel
theorem dX4_weighChanges_36 : decode cX4_weighChanges 36 = .ok (.getfield 69, 3) := dcB (j := 0) (f := Instr.getfield) sX4_weighChanges_36 rfl op_180 rfl
theorem dX4_weighChanges_39 : decode cX4_weighChanges 39 = .ok (.iload_n 3, 1) := dc0 (j := 3) sX4_weighChanges_36 rfl op_29
theorem dX4_weighChanges_40 : decode cX4_weighChanges 40 = .ok (.iaload, 1) := dc0 (j := 4) sX4_weighChanges_36 rfl op_46
theorem dX4_weighChanges_41 : decode cX4_weighChanges 41 = .ok (.isub, 1) := dc0 (j := 5) sX4_weighChanges_36 rfl op_100
theorem dX4_weighChanges_42 : decode cX4_weighChanges 42 = .ok (.iastore, 1) := dc0 (j := 6) sX4_weighChanges_36 rfl op_79
theorem dX4_weighChanges_43 : decode cX4_weighChanges 43 = .ok (.iinc 3 1, 3) := dcIp (j := 7) sX4_weighChanges_36 rfl op_132 rfl
theorem dX4_weighChanges_46 : decode cX4_weighChanges 46 = .ok (.goto (-34), 3) := dcTn (j := 10) (v := 34) (f := Instr.goto) sX4_weighChanges_36 rfl op_167 rfl rfl rfl
theorem dX4_weighChanges_49 : decode cX4_weighChanges 49 = .ok (.iinc 2 1, 3) := dcIp (j := 13) sX4_weighChanges_36 rfl op_132 rfl
theorem dX4_weighChanges_52 : decode cX4_weighChanges 52 = .ok (.goto (-50), 3) := dcTn (j := 16) (v := 50) (f := Instr.goto) sX4_weighChanges_36 rfl op_167 rfl rfl rfl
theorem dX4_weighChanges_55 : decode cX4_weighChanges 55 = .ok (.return_, 1) := dc0 (j := 19) sX4_weighChanges_36 rfl op_177
theorem sX4_meetPresent_0 : sgm cX4_meetPresent 0 [9, 65, 3, 54, 4, 21, 4, 43, 180, 0, 62, 162, 0, 41, 32, 21, 4, 43, 180, 0, 72, 21, 4, 46, 43, 180, 0, 73, 21, 4, 46, 43, 180, 0, 74] := by decide +kernel
theorem dX4_meetPresent_0 : decode cX4_meetPresent 0 = .ok (.lconst 0, 1) := dc0 (j := 0) sX4_meetPresent_0 rfl op_9
theorem dX4_meetPresent_1 : decode cX4_meetPresent 1 = .ok (.lstore_n 2, 1) := dc0 (j := 1) sX4_meetPresent_0 rfl op_65
theorem dX4_meetPresent_2 : decode cX4_meetPresent 2 = .ok (.iconst 0, 1) := dc0 (j := 2) sX4_meetPresent_0 rfl op_3
theorem dX4_meetPresent_3 : decode cX4_meetPresent 3 = .ok (.istore 4, 2) := dcA (j := 3) (f := Instr.istore) sX4_meetPresent_0 rfl op_54
theorem dX4_meetPresent_5 : decode cX4_meetPresent 5 = .ok (.iload 4, 2) := dcA (j := 5) (f := Instr.iload) sX4_meetPresent_0 rfl op_21
theorem dX4_meetPresent_7 : decode cX4_meetPresent 7 = .ok (.aload_n 1, 1) := dc0 (j := 7) sX4_meetPresent_0 rfl op_43
theorem dX4_meetPresent_8 : decode cX4_meetPresent 8 = .ok (.getfield 62, 3) := dcB (j := 8) (f := Instr.getfield) sX4_meetPresent_0 rfl op_180 rfl
theorem dX4_meetPresent_11 : decode cX4_meetPresent 11 = .ok (.if_icmp .ge 41, 3) := dcTp (j := 11) (v := 41) (f := Instr.if_icmp .ge) sX4_meetPresent_0 rfl op_162 rfl rfl
theorem dX4_meetPresent_14 : decode cX4_meetPresent 14 = .ok (.lload_n 2, 1) := dc0 (j := 14) sX4_meetPresent_0 rfl op_32
theorem dX4_meetPresent_15 : decode cX4_meetPresent 15 = .ok (.iload 4, 2) := dcA (j := 15) (f := Instr.iload) sX4_meetPresent_0 rfl op_21
theorem dX4_meetPresent_17 : decode cX4_meetPresent 17 = .ok (.aload_n 1, 1) := dc0 (j := 17) sX4_meetPresent_0 rfl op_43
theorem dX4_meetPresent_18 : decode cX4_meetPresent 18 = .ok (.getfield 72, 3) := dcB (j := 18) (f := Instr.getfield) sX4_meetPresent_0 rfl op_180 rfl
theorem dX4_meetPresent_21 : decode cX4_meetPresent 21 = .ok (.iload 4, 2) := dcA (j := 21) (f := Instr.iload) sX4_meetPresent_0 rfl op_21
theorem dX4_meetPresent_23 : decode cX4_meetPresent 23 = .ok (.iaload, 1) := dc0 (j := 23) sX4_meetPresent_0 rfl op_46
theorem dX4_meetPresent_24 : decode cX4_meetPresent 24 = .ok (.aload_n 1, 1) := dc0 (j := 24) sX4_meetPresent_0 rfl op_43
theorem dX4_meetPresent_25 : decode cX4_meetPresent 25 = .ok (.getfield 73, 3) := dcB (j := 25) (f := Instr.getfield) sX4_meetPresent_0 rfl op_180 rfl
theorem dX4_meetPresent_28 : decode cX4_meetPresent 28 = .ok (.iload 4, 2) := dcA (j := 28) (f := Instr.iload) sX4_meetPresent_0 rfl op_21
theorem dX4_meetPresent_30 : decode cX4_meetPresent 30 = .ok (.iaload, 1) := dc0 (j := 30) sX4_meetPresent_0 rfl op_46
theorem dX4_meetPresent_31 : decode cX4_meetPresent 31 = .ok (.aload_n 1, 1) := dc0 (j := 31) sX4_meetPresent_0 rfl op_43
theorem dX4_meetPresent_32 : decode cX4_meetPresent 32 = .ok (.getfield 74, 3) := dcB (j := 32) (f := Instr.getfield) sX4_meetPresent_0 rfl op_180 rfl
theorem sX4_meetPresent_35 : sgm cX4_meetPresent 35 [21, 4, 46, 184, 0, 77, 184, 0, 82, 129, 65, 132, 4, 1, 167, 255, 212, 42, 32, 182, 0, 86, 177] := by decide +kernel
theorem dX4_meetPresent_35 : decode cX4_meetPresent 35 = .ok (.iload 4, 2) := dcA (j := 0) (f := Instr.iload) sX4_meetPresent_35 rfl op_21
theorem dX4_meetPresent_37 : decode cX4_meetPresent 37 = .ok (.iaload, 1) := dc0 (j := 2) sX4_meetPresent_35 rfl op_46
theorem dX4_meetPresent_38 : decode cX4_meetPresent 38 = .ok (.invokestatic 77, 3) := dcB (j := 3) (f := Instr.invokestatic) sX4_meetPresent_35 rfl op_184 rfl
theorem dX4_meetPresent_41 : decode cX4_meetPresent 41 = .ok (.invokestatic 82, 3) := dcB (j := 6) (f := Instr.invokestatic) sX4_meetPresent_35 rfl op_184 rfl
theorem dX4_meetPresent_44 : decode cX4_meetPresent 44 = .ok (.lor, 1) := dc0 (j := 9) sX4_meetPresent_35 rfl op_129
theorem dX4_meetPresent_45 : decode cX4_meetPresent 45 = .ok (.lstore_n 2, 1) := dc0 (j := 10) sX4_meetPresent_35 rfl op_65
theorem dX4_meetPresent_46 : decode cX4_meetPresent 46 = .ok (.iinc 4 1, 3) := dcIp (j := 11) sX4_meetPresent_35 rfl op_132 rfl
theorem dX4_meetPresent_49 : decode cX4_meetPresent 49 = .ok (.goto (-44), 3) := dcTn (j := 14) (v := 44) (f := Instr.goto) sX4_meetPresent_35 rfl op_167 rfl rfl rfl
theorem dX4_meetPresent_52 : decode cX4_meetPresent 52 = .ok (.aload_n 0, 1) := dc0 (j := 17) sX4_meetPresent_35 rfl op_42
theorem dX4_meetPresent_53 : decode cX4_meetPresent 53 = .ok (.lload_n 2, 1) := dc0 (j := 18) sX4_meetPresent_35 rfl op_32
theorem dX4_meetPresent_54 : decode cX4_meetPresent 54 = .ok (.invokevirtual 86, 3) := dcB (j := 19) (f := Instr.invokevirtual) sX4_meetPresent_35 rfl op_182 rfl
theorem dX4_meetPresent_57 : decode cX4_meetPresent 57 = .ok (.return_, 1) := dc0 (j := 22) sX4_meetPresent_35 rfl op_177
theorem sX4_packed_0 : sgm cX4_packed 0 [27, 8, 120, 28, 128, 133, 26, 16, 13, 104, 121, 173] := by decide +kernel
theorem dX4_packed_0 : decode cX4_packed 0 = .ok (.iload_n 1, 1) := dc0 (j := 0) sX4_packed_0 rfl op_27
theorem dX4_packed_1 : decode cX4_packed 1 = .ok (.iconst 5, 1) := dc0 (j := 1) sX4_packed_0 rfl op_8
theorem dX4_packed_2 : decode cX4_packed 2 = .ok (.ishl, 1) := dc0 (j := 2) sX4_packed_0 rfl op_120
theorem dX4_packed_3 : decode cX4_packed 3 = .ok (.iload_n 2, 1) := dc0 (j := 3) sX4_packed_0 rfl op_28
theorem dX4_packed_4 : decode cX4_packed 4 = .ok (.ior, 1) := dc0 (j := 4) sX4_packed_0 rfl op_128
theorem dX4_packed_5 : decode cX4_packed 5 = .ok (.i2l, 1) := dc0 (j := 5) sX4_packed_0 rfl op_133
theorem dX4_packed_6 : decode cX4_packed 6 = .ok (.iload_n 0, 1) := dc0 (j := 6) sX4_packed_0 rfl op_26
theorem dX4_packed_7 : decode cX4_packed 7 = .ok (.bipush 13, 2) := dcSp (j := 7) (a := 13) (f := Instr.bipush) sX4_packed_0 rfl op_16 rfl
theorem dX4_packed_9 : decode cX4_packed 9 = .ok (.imul, 1) := dc0 (j := 9) sX4_packed_0 rfl op_104
theorem dX4_packed_10 : decode cX4_packed 10 = .ok (.lshl, 1) := dc0 (j := 10) sX4_packed_0 rfl op_121
theorem dX4_packed_11 : decode cX4_packed 11 = .ok (.lreturn, 1) := dc0 (j := 11) sX4_packed_0 rfl op_173
theorem sX4_unpack_0 : sgm cX4_unpack 0 [3, 54, 4, 21, 4, 43, 180, 0, 62, 162, 0, 52, 21, 4, 6, 162, 0, 46, 32, 21, 4, 16, 13, 104, 123, 136, 54, 5, 42, 180, 0, 22, 21, 4, 21, 5] := by decide +kernel
theorem dX4_unpack_0 : decode cX4_unpack 0 = .ok (.iconst 0, 1) := dc0 (j := 0) sX4_unpack_0 rfl op_3
theorem dX4_unpack_1 : decode cX4_unpack 1 = .ok (.istore 4, 2) := dcA (j := 1) (f := Instr.istore) sX4_unpack_0 rfl op_54
theorem dX4_unpack_3 : decode cX4_unpack 3 = .ok (.iload 4, 2) := dcA (j := 3) (f := Instr.iload) sX4_unpack_0 rfl op_21
theorem dX4_unpack_5 : decode cX4_unpack 5 = .ok (.aload_n 1, 1) := dc0 (j := 5) sX4_unpack_0 rfl op_43
theorem dX4_unpack_6 : decode cX4_unpack 6 = .ok (.getfield 62, 3) := dcB (j := 6) (f := Instr.getfield) sX4_unpack_0 rfl op_180 rfl
theorem dX4_unpack_9 : decode cX4_unpack 9 = .ok (.if_icmp .ge 52, 3) := dcTp (j := 9) (v := 52) (f := Instr.if_icmp .ge) sX4_unpack_0 rfl op_162 rfl rfl
theorem dX4_unpack_12 : decode cX4_unpack 12 = .ok (.iload 4, 2) := dcA (j := 12) (f := Instr.iload) sX4_unpack_0 rfl op_21
theorem dX4_unpack_14 : decode cX4_unpack 14 = .ok (.iconst 3, 1) := dc0 (j := 14) sX4_unpack_0 rfl op_6
theorem dX4_unpack_15 : decode cX4_unpack 15 = .ok (.if_icmp .ge 46, 3) := dcTp (j := 15) (v := 46) (f := Instr.if_icmp .ge) sX4_unpack_0 rfl op_162 rfl rfl
theorem dX4_unpack_18 : decode cX4_unpack 18 = .ok (.lload_n 2, 1) := dc0 (j := 18) sX4_unpack_0 rfl op_32
theorem dX4_unpack_19 : decode cX4_unpack 19 = .ok (.iload 4, 2) := dcA (j := 19) (f := Instr.iload) sX4_unpack_0 rfl op_21
theorem dX4_unpack_21 : decode cX4_unpack 21 = .ok (.bipush 13, 2) := dcSp (j := 21) (a := 13) (f := Instr.bipush) sX4_unpack_0 rfl op_16 rfl
theorem dX4_unpack_23 : decode cX4_unpack 23 = .ok (.imul, 1) := dc0 (j := 23) sX4_unpack_0 rfl op_104
theorem dX4_unpack_24 : decode cX4_unpack 24 = .ok (.lshr, 1) := dc0 (j := 24) sX4_unpack_0 rfl op_123
theorem dX4_unpack_25 : decode cX4_unpack 25 = .ok (.l2i, 1) := dc0 (j := 25) sX4_unpack_0 rfl op_136
theorem dX4_unpack_26 : decode cX4_unpack 26 = .ok (.istore 5, 2) := dcA (j := 26) (f := Instr.istore) sX4_unpack_0 rfl op_54
theorem dX4_unpack_28 : decode cX4_unpack 28 = .ok (.aload_n 0, 1) := dc0 (j := 28) sX4_unpack_0 rfl op_42
theorem dX4_unpack_29 : decode cX4_unpack 29 = .ok (.getfield 22, 3) := dcB (j := 29) (f := Instr.getfield) sX4_unpack_0 rfl op_180 rfl
theorem dX4_unpack_32 : decode cX4_unpack 32 = .ok (.iload 4, 2) := dcA (j := 32) (f := Instr.iload) sX4_unpack_0 rfl op_21
theorem dX4_unpack_34 : decode cX4_unpack 34 = .ok (.iload 5, 2) := dcA (j := 34) (f := Instr.iload) sX4_unpack_0 rfl op_21
theorem sX4_unpack_36 : sgm cX4_unpack 36 [16, 31, 126, 79, 42, 180, 0, 19, 21, 4, 21, 5, 8, 122, 17, 0, 255, 126, 79, 132, 4, 1, 167, 255, 201, 177] := by decide +kernel
theorem dX4_unpack_36 : decode cX4_unpack 36 = .ok (.bipush 31, 2) := dcSp (j := 0) (a := 31) (f := Instr.bipush) sX4_unpack_36 rfl op_16 rfl
theorem dX4_unpack_38 : decode cX4_unpack 38 = .ok (.iand, 1) := dc0 (j := 2) sX4_unpack_36 rfl op_126
theorem dX4_unpack_39 : decode cX4_unpack 39 = .ok (.iastore, 1) := dc0 (j := 3) sX4_unpack_36 rfl op_79
theorem dX4_unpack_40 : decode cX4_unpack 40 = .ok (.aload_n 0, 1) := dc0 (j := 4) sX4_unpack_36 rfl op_42
theorem dX4_unpack_41 : decode cX4_unpack 41 = .ok (.getfield 19, 3) := dcB (j := 5) (f := Instr.getfield) sX4_unpack_36 rfl op_180 rfl
theorem dX4_unpack_44 : decode cX4_unpack 44 = .ok (.iload 4, 2) := dcA (j := 8) (f := Instr.iload) sX4_unpack_36 rfl op_21
theorem dX4_unpack_46 : decode cX4_unpack 46 = .ok (.iload 5, 2) := dcA (j := 10) (f := Instr.iload) sX4_unpack_36 rfl op_21
theorem dX4_unpack_48 : decode cX4_unpack 48 = .ok (.iconst 5, 1) := dc0 (j := 12) sX4_unpack_36 rfl op_8
theorem dX4_unpack_49 : decode cX4_unpack 49 = .ok (.ishr, 1) := dc0 (j := 13) sX4_unpack_36 rfl op_122
theorem dX4_unpack_50 : decode cX4_unpack 50 = .ok (.sipush 255, 3) := dcTp (j := 14) (v := 255) (f := Instr.sipush) sX4_unpack_36 rfl op_17 rfl rfl
theorem dX4_unpack_53 : decode cX4_unpack 53 = .ok (.iand, 1) := dc0 (j := 17) sX4_unpack_36 rfl op_126
theorem dX4_unpack_54 : decode cX4_unpack 54 = .ok (.iastore, 1) := dc0 (j := 18) sX4_unpack_36 rfl op_79
theorem dX4_unpack_55 : decode cX4_unpack 55 = .ok (.iinc 4 1, 3) := dcIp (j := 19) sX4_unpack_36 rfl op_132 rfl
theorem dX4_unpack_58 : decode cX4_unpack 58 = .ok (.goto (-55), 3) := dcTn (j := 22) (v := 55) (f := Instr.goto) sX4_unpack_36 rfl op_167 rfl rfl rfl
theorem dX4_unpack_61 : decode cX4_unpack 61 = .ok (.return_, 1) := dc0 (j := 25) sX4_unpack_36 rfl op_177
theorem sX4_canStrike_0 : sgm cX4_canStrike 0 [42, 180, 0, 22, 28, 46, 43, 180, 0, 74, 28, 46, 162, 0, 21, 43, 28, 42, 180, 0, 19, 28, 46, 182, 0, 90, 153, 0, 7, 4, 167, 0, 4, 3, 172] := by decide +kernel
theorem dX4_canStrike_0 : decode cX4_canStrike 0 = .ok (.aload_n 0, 1) := dc0 (j := 0) sX4_canStrike_0 rfl op_42
theorem dX4_canStrike_1 : decode cX4_canStrike 1 = .ok (.getfield 22, 3) := dcB (j := 1) (f := Instr.getfield) sX4_canStrike_0 rfl op_180 rfl
theorem dX4_canStrike_4 : decode cX4_canStrike 4 = .ok (.iload_n 2, 1) := dc0 (j := 4) sX4_canStrike_0 rfl op_28
theorem dX4_canStrike_5 : decode cX4_canStrike 5 = .ok (.iaload, 1) := dc0 (j := 5) sX4_canStrike_0 rfl op_46
theorem dX4_canStrike_6 : decode cX4_canStrike 6 = .ok (.aload_n 1, 1) := dc0 (j := 6) sX4_canStrike_0 rfl op_43
theorem dX4_canStrike_7 : decode cX4_canStrike 7 = .ok (.getfield 74, 3) := dcB (j := 7) (f := Instr.getfield) sX4_canStrike_0 rfl op_180 rfl
theorem dX4_canStrike_10 : decode cX4_canStrike 10 = .ok (.iload_n 2, 1) := dc0 (j := 10) sX4_canStrike_0 rfl op_28
theorem dX4_canStrike_11 : decode cX4_canStrike 11 = .ok (.iaload, 1) := dc0 (j := 11) sX4_canStrike_0 rfl op_46
theorem dX4_canStrike_12 : decode cX4_canStrike 12 = .ok (.if_icmp .ge 21, 3) := dcTp (j := 12) (v := 21) (f := Instr.if_icmp .ge) sX4_canStrike_0 rfl op_162 rfl rfl
theorem dX4_canStrike_15 : decode cX4_canStrike 15 = .ok (.aload_n 1, 1) := dc0 (j := 15) sX4_canStrike_0 rfl op_43
theorem dX4_canStrike_16 : decode cX4_canStrike 16 = .ok (.iload_n 2, 1) := dc0 (j := 16) sX4_canStrike_0 rfl op_28
theorem dX4_canStrike_17 : decode cX4_canStrike 17 = .ok (.aload_n 0, 1) := dc0 (j := 17) sX4_canStrike_0 rfl op_42
theorem dX4_canStrike_18 : decode cX4_canStrike 18 = .ok (.getfield 19, 3) := dcB (j := 18) (f := Instr.getfield) sX4_canStrike_0 rfl op_180 rfl
theorem dX4_canStrike_21 : decode cX4_canStrike 21 = .ok (.iload_n 2, 1) := dc0 (j := 21) sX4_canStrike_0 rfl op_28
theorem dX4_canStrike_22 : decode cX4_canStrike 22 = .ok (.iaload, 1) := dc0 (j := 22) sX4_canStrike_0 rfl op_46
theorem dX4_canStrike_23 : decode cX4_canStrike 23 = .ok (.invokevirtual 90, 3) := dcB (j := 23) (f := Instr.invokevirtual) sX4_canStrike_0 rfl op_182 rfl
theorem dX4_canStrike_26 : decode cX4_canStrike 26 = .ok (.ifCond .eq 7, 3) := dcTp (j := 26) (v := 7) (f := Instr.ifCond .eq) sX4_canStrike_0 rfl op_153 rfl rfl
theorem dX4_canStrike_29 : decode cX4_canStrike 29 = .ok (.iconst 1, 1) := dc0 (j := 29) sX4_canStrike_0 rfl op_4
theorem dX4_canStrike_30 : decode cX4_canStrike 30 = .ok (.goto 4, 3) := dcTp (j := 30) (v := 4) (f := Instr.goto) sX4_canStrike_0 rfl op_167 rfl rfl
theorem dX4_canStrike_33 : decode cX4_canStrike 33 = .ok (.iconst 0, 1) := dc0 (j := 33) sX4_canStrike_0 rfl op_3
theorem dX4_canStrike_34 : decode cX4_canStrike 34 = .ok (.ireturn, 1) := dc0 (j := 34) sX4_canStrike_0 rfl op_172
theorem sX4_endsNext_0 : sgm cX4_endsNext 0 [42, 43, 32, 182, 0, 94, 3, 54, 4, 21, 4, 43, 180, 0, 62, 162, 0, 69, 42, 180, 0, 22, 21, 4, 46, 43, 180, 0, 74, 21, 4, 46, 161, 0, 7, 4] := by decide +kernel
theorem dX4_endsNext_0 : decode cX4_endsNext 0 = .ok (.aload_n 0, 1) := dc0 (j := 0) sX4_endsNext_0 rfl op_42
theorem dX4_endsNext_1 : decode cX4_endsNext 1 = .ok (.aload_n 1, 1) := dc0 (j := 1) sX4_endsNext_0 rfl op_43
theorem dX4_endsNext_2 : decode cX4_endsNext 2 = .ok (.lload_n 2, 1) := dc0 (j := 2) sX4_endsNext_0 rfl op_32
theorem dX4_endsNext_3 : decode cX4_endsNext 3 = .ok (.invokevirtual 94, 3) := dcB (j := 3) (f := Instr.invokevirtual) sX4_endsNext_0 rfl op_182 rfl
theorem dX4_endsNext_6 : decode cX4_endsNext 6 = .ok (.iconst 0, 1) := dc0 (j := 6) sX4_endsNext_0 rfl op_3
theorem dX4_endsNext_7 : decode cX4_endsNext 7 = .ok (.istore 4, 2) := dcA (j := 7) (f := Instr.istore) sX4_endsNext_0 rfl op_54
theorem dX4_endsNext_9 : decode cX4_endsNext 9 = .ok (.iload 4, 2) := dcA (j := 9) (f := Instr.iload) sX4_endsNext_0 rfl op_21
theorem dX4_endsNext_11 : decode cX4_endsNext 11 = .ok (.aload_n 1, 1) := dc0 (j := 11) sX4_endsNext_0 rfl op_43
theorem dX4_endsNext_12 : decode cX4_endsNext 12 = .ok (.getfield 62, 3) := dcB (j := 12) (f := Instr.getfield) sX4_endsNext_0 rfl op_180 rfl
theorem dX4_endsNext_15 : decode cX4_endsNext 15 = .ok (.if_icmp .ge 69, 3) := dcTp (j := 15) (v := 69) (f := Instr.if_icmp .ge) sX4_endsNext_0 rfl op_162 rfl rfl
theorem dX4_endsNext_18 : decode cX4_endsNext 18 = .ok (.aload_n 0, 1) := dc0 (j := 18) sX4_endsNext_0 rfl op_42
theorem dX4_endsNext_19 : decode cX4_endsNext 19 = .ok (.getfield 22, 3) := dcB (j := 19) (f := Instr.getfield) sX4_endsNext_0 rfl op_180 rfl
theorem dX4_endsNext_22 : decode cX4_endsNext 22 = .ok (.iload 4, 2) := dcA (j := 22) (f := Instr.iload) sX4_endsNext_0 rfl op_21
theorem dX4_endsNext_24 : decode cX4_endsNext 24 = .ok (.iaload, 1) := dc0 (j := 24) sX4_endsNext_0 rfl op_46
theorem dX4_endsNext_25 : decode cX4_endsNext 25 = .ok (.aload_n 1, 1) := dc0 (j := 25) sX4_endsNext_0 rfl op_43
theorem dX4_endsNext_26 : decode cX4_endsNext 26 = .ok (.getfield 74, 3) := dcB (j := 26) (f := Instr.getfield) sX4_endsNext_0 rfl op_180 rfl
theorem dX4_endsNext_29 : decode cX4_endsNext 29 = .ok (.iload 4, 2) := dcA (j := 29) (f := Instr.iload) sX4_endsNext_0 rfl op_21
theorem dX4_endsNext_31 : decode cX4_endsNext 31 = .ok (.iaload, 1) := dc0 (j := 31) sX4_endsNext_0 rfl op_46
theorem dX4_endsNext_32 : decode cX4_endsNext 32 = .ok (.if_icmp .lt 7, 3) := dcTp (j := 32) (v := 7) (f := Instr.if_icmp .lt) sX4_endsNext_0 rfl op_161 rfl rfl
theorem dX4_endsNext_35 : decode cX4_endsNext 35 = .ok (.iconst 1, 1) := dc0 (j := 35) sX4_endsNext_0 rfl op_4
theorem sX4_endsNext_36 : sgm cX4_endsNext 36 [167, 0, 4, 3, 54, 5, 21, 5, 154, 0, 34, 42, 180, 0, 22, 21, 4, 46, 4, 96, 43, 180, 0, 74, 21, 4, 46, 161, 0, 13, 42, 43, 21, 4] := by decide +kernel
theorem dX4_endsNext_36 : decode cX4_endsNext 36 = .ok (.goto 4, 3) := dcTp (j := 0) (v := 4) (f := Instr.goto) sX4_endsNext_36 rfl op_167 rfl rfl
theorem dX4_endsNext_39 : decode cX4_endsNext 39 = .ok (.iconst 0, 1) := dc0 (j := 3) sX4_endsNext_36 rfl op_3
theorem dX4_endsNext_40 : decode cX4_endsNext 40 = .ok (.istore 5, 2) := dcA (j := 4) (f := Instr.istore) sX4_endsNext_36 rfl op_54
theorem dX4_endsNext_42 : decode cX4_endsNext 42 = .ok (.iload 5, 2) := dcA (j := 6) (f := Instr.iload) sX4_endsNext_36 rfl op_21
theorem dX4_endsNext_44 : decode cX4_endsNext 44 = .ok (.ifCond .ne 34, 3) := dcTp (j := 8) (v := 34) (f := Instr.ifCond .ne) sX4_endsNext_36 rfl op_154 rfl rfl
theorem dX4_endsNext_47 : decode cX4_endsNext 47 = .ok (.aload_n 0, 1) := dc0 (j := 11) sX4_endsNext_36 rfl op_42
theorem dX4_endsNext_48 : decode cX4_endsNext 48 = .ok (.getfield 22, 3) := dcB (j := 12) (f := Instr.getfield) sX4_endsNext_36 rfl op_180 rfl
theorem dX4_endsNext_51 : decode cX4_endsNext 51 = .ok (.iload 4, 2) := dcA (j := 15) (f := Instr.iload) sX4_endsNext_36 rfl op_21
theorem dX4_endsNext_53 : decode cX4_endsNext 53 = .ok (.iaload, 1) := dc0 (j := 17) sX4_endsNext_36 rfl op_46
theorem dX4_endsNext_54 : decode cX4_endsNext 54 = .ok (.iconst 1, 1) := dc0 (j := 18) sX4_endsNext_36 rfl op_4
theorem dX4_endsNext_55 : decode cX4_endsNext 55 = .ok (.iadd, 1) := dc0 (j := 19) sX4_endsNext_36 rfl op_96
theorem dX4_endsNext_56 : decode cX4_endsNext 56 = .ok (.aload_n 1, 1) := dc0 (j := 20) sX4_endsNext_36 rfl op_43
theorem dX4_endsNext_57 : decode cX4_endsNext 57 = .ok (.getfield 74, 3) := dcB (j := 21) (f := Instr.getfield) sX4_endsNext_36 rfl op_180 rfl
theorem dX4_endsNext_60 : decode cX4_endsNext 60 = .ok (.iload 4, 2) := dcA (j := 24) (f := Instr.iload) sX4_endsNext_36 rfl op_21
theorem dX4_endsNext_62 : decode cX4_endsNext 62 = .ok (.iaload, 1) := dc0 (j := 26) sX4_endsNext_36 rfl op_46
theorem dX4_endsNext_63 : decode cX4_endsNext 63 = .ok (.if_icmp .lt 13, 3) := dcTp (j := 27) (v := 13) (f := Instr.if_icmp .lt) sX4_endsNext_36 rfl op_161 rfl rfl
theorem dX4_endsNext_66 : decode cX4_endsNext 66 = .ok (.aload_n 0, 1) := dc0 (j := 30) sX4_endsNext_36 rfl op_42
theorem dX4_endsNext_67 : decode cX4_endsNext 67 = .ok (.aload_n 1, 1) := dc0 (j := 31) sX4_endsNext_36 rfl op_43
theorem dX4_endsNext_68 : decode cX4_endsNext 68 = .ok (.iload 4, 2) := dcA (j := 32) (f := Instr.iload) sX4_endsNext_36 rfl op_21
theorem sX4_endsNext_70 : sgm cX4_endsNext 70 [182, 0, 97, 154, 0, 5, 3, 172, 132, 4, 1, 167, 255, 184, 4, 172] := by decide +kernel
theorem dX4_endsNext_70 : decode cX4_endsNext 70 = .ok (.invokevirtual 97, 3) := dcB (j := 0) (f := Instr.invokevirtual) sX4_endsNext_70 rfl op_182 rfl
theorem dX4_endsNext_73 : decode cX4_endsNext 73 = .ok (.ifCond .ne 5, 3) := dcTp (j := 3) (v := 5) (f := Instr.ifCond .ne) sX4_endsNext_70 rfl op_154 rfl rfl
theorem dX4_endsNext_76 : decode cX4_endsNext 76 = .ok (.iconst 0, 1) := dc0 (j := 6) sX4_endsNext_70 rfl op_3
theorem dX4_endsNext_77 : decode cX4_endsNext 77 = .ok (.ireturn, 1) := dc0 (j := 7) sX4_endsNext_70 rfl op_172
theorem dX4_endsNext_78 : decode cX4_endsNext 78 = .ok (.iinc 4 1, 3) := dcIp (j := 8) sX4_endsNext_70 rfl op_132 rfl
theorem dX4_endsNext_81 : decode cX4_endsNext 81 = .ok (.goto (-72), 3) := dcTn (j := 11) (v := 72) (f := Instr.goto) sX4_endsNext_70 rfl op_167 rfl rfl rfl
theorem dX4_endsNext_84 : decode cX4_endsNext 84 = .ok (.iconst 1, 1) := dc0 (j := 14) sX4_endsNext_70 rfl op_4
theorem dX4_endsNext_85 : decode cX4_endsNext 85 = .ok (.ireturn, 1) := dc0 (j := 15) sX4_endsNext_70 rfl op_172
theorem sX4_goOnFrom_0 : sgm cX4_goOnFrom 0 [42, 43, 32, 182, 0, 94, 3, 54, 4, 3, 54, 5, 21, 5, 43, 180, 0, 62, 162, 0, 32, 21, 4, 42, 43, 21, 5, 182, 0, 97, 153, 0, 10, 4, 21, 5] := by decide +kernel
theorem dX4_goOnFrom_0 : decode cX4_goOnFrom 0 = .ok (.aload_n 0, 1) := dc0 (j := 0) sX4_goOnFrom_0 rfl op_42
theorem dX4_goOnFrom_1 : decode cX4_goOnFrom 1 = .ok (.aload_n 1, 1) := dc0 (j := 1) sX4_goOnFrom_0 rfl op_43
theorem dX4_goOnFrom_2 : decode cX4_goOnFrom 2 = .ok (.lload_n 2, 1) := dc0 (j := 2) sX4_goOnFrom_0 rfl op_32
theorem dX4_goOnFrom_3 : decode cX4_goOnFrom 3 = .ok (.invokevirtual 94, 3) := dcB (j := 3) (f := Instr.invokevirtual) sX4_goOnFrom_0 rfl op_182 rfl
theorem dX4_goOnFrom_6 : decode cX4_goOnFrom 6 = .ok (.iconst 0, 1) := dc0 (j := 6) sX4_goOnFrom_0 rfl op_3
theorem dX4_goOnFrom_7 : decode cX4_goOnFrom 7 = .ok (.istore 4, 2) := dcA (j := 7) (f := Instr.istore) sX4_goOnFrom_0 rfl op_54
theorem dX4_goOnFrom_9 : decode cX4_goOnFrom 9 = .ok (.iconst 0, 1) := dc0 (j := 9) sX4_goOnFrom_0 rfl op_3
theorem dX4_goOnFrom_10 : decode cX4_goOnFrom 10 = .ok (.istore 5, 2) := dcA (j := 10) (f := Instr.istore) sX4_goOnFrom_0 rfl op_54
theorem dX4_goOnFrom_12 : decode cX4_goOnFrom 12 = .ok (.iload 5, 2) := dcA (j := 12) (f := Instr.iload) sX4_goOnFrom_0 rfl op_21
theorem dX4_goOnFrom_14 : decode cX4_goOnFrom 14 = .ok (.aload_n 1, 1) := dc0 (j := 14) sX4_goOnFrom_0 rfl op_43
theorem dX4_goOnFrom_15 : decode cX4_goOnFrom 15 = .ok (.getfield 62, 3) := dcB (j := 15) (f := Instr.getfield) sX4_goOnFrom_0 rfl op_180 rfl
theorem dX4_goOnFrom_18 : decode cX4_goOnFrom 18 = .ok (.if_icmp .ge 32, 3) := dcTp (j := 18) (v := 32) (f := Instr.if_icmp .ge) sX4_goOnFrom_0 rfl op_162 rfl rfl
theorem dX4_goOnFrom_21 : decode cX4_goOnFrom 21 = .ok (.iload 4, 2) := dcA (j := 21) (f := Instr.iload) sX4_goOnFrom_0 rfl op_21
theorem dX4_goOnFrom_23 : decode cX4_goOnFrom 23 = .ok (.aload_n 0, 1) := dc0 (j := 23) sX4_goOnFrom_0 rfl op_42
theorem dX4_goOnFrom_24 : decode cX4_goOnFrom 24 = .ok (.aload_n 1, 1) := dc0 (j := 24) sX4_goOnFrom_0 rfl op_43
theorem dX4_goOnFrom_25 : decode cX4_goOnFrom 25 = .ok (.iload 5, 2) := dcA (j := 25) (f := Instr.iload) sX4_goOnFrom_0 rfl op_21
theorem dX4_goOnFrom_27 : decode cX4_goOnFrom 27 = .ok (.invokevirtual 97, 3) := dcB (j := 27) (f := Instr.invokevirtual) sX4_goOnFrom_0 rfl op_182 rfl
theorem dX4_goOnFrom_30 : decode cX4_goOnFrom 30 = .ok (.ifCond .eq 10, 3) := dcTp (j := 30) (v := 10) (f := Instr.ifCond .eq) sX4_goOnFrom_0 rfl op_153 rfl rfl
theorem dX4_goOnFrom_33 : decode cX4_goOnFrom 33 = .ok (.iconst 1, 1) := dc0 (j := 33) sX4_goOnFrom_0 rfl op_4
theorem dX4_goOnFrom_34 : decode cX4_goOnFrom 34 = .ok (.iload 5, 2) := dcA (j := 34) (f := Instr.iload) sX4_goOnFrom_0 rfl op_21
theorem sX4_goOnFrom_36 : sgm cX4_goOnFrom 36 [120, 167, 0, 4, 3, 128, 54, 4, 132, 5, 1, 167, 255, 221, 3, 54, 5, 21, 5, 43, 182, 0, 56, 163, 0, 102, 3, 54, 6, 21, 6, 43, 180, 0, 62] := by decide +kernel
theorem dX4_goOnFrom_36 : decode cX4_goOnFrom 36 = .ok (.ishl, 1) := dc0 (j := 0) sX4_goOnFrom_36 rfl op_120
theorem dX4_goOnFrom_37 : decode cX4_goOnFrom 37 = .ok (.goto 4, 3) := dcTp (j := 1) (v := 4) (f := Instr.goto) sX4_goOnFrom_36 rfl op_167 rfl rfl
theorem dX4_goOnFrom_40 : decode cX4_goOnFrom 40 = .ok (.iconst 0, 1) := dc0 (j := 4) sX4_goOnFrom_36 rfl op_3
theorem dX4_goOnFrom_41 : decode cX4_goOnFrom 41 = .ok (.ior, 1) := dc0 (j := 5) sX4_goOnFrom_36 rfl op_128
theorem dX4_goOnFrom_42 : decode cX4_goOnFrom 42 = .ok (.istore 4, 2) := dcA (j := 6) (f := Instr.istore) sX4_goOnFrom_36 rfl op_54
theorem dX4_goOnFrom_44 : decode cX4_goOnFrom 44 = .ok (.iinc 5 1, 3) := dcIp (j := 8) sX4_goOnFrom_36 rfl op_132 rfl
theorem dX4_goOnFrom_47 : decode cX4_goOnFrom 47 = .ok (.goto (-35), 3) := dcTn (j := 11) (v := 35) (f := Instr.goto) sX4_goOnFrom_36 rfl op_167 rfl rfl rfl
theorem dX4_goOnFrom_50 : decode cX4_goOnFrom 50 = .ok (.iconst 0, 1) := dc0 (j := 14) sX4_goOnFrom_36 rfl op_3
theorem dX4_goOnFrom_51 : decode cX4_goOnFrom 51 = .ok (.istore 5, 2) := dcA (j := 15) (f := Instr.istore) sX4_goOnFrom_36 rfl op_54
theorem dX4_goOnFrom_53 : decode cX4_goOnFrom 53 = .ok (.iload 5, 2) := dcA (j := 17) (f := Instr.iload) sX4_goOnFrom_36 rfl op_21
theorem dX4_goOnFrom_55 : decode cX4_goOnFrom 55 = .ok (.aload_n 1, 1) := dc0 (j := 19) sX4_goOnFrom_36 rfl op_43
theorem dX4_goOnFrom_56 : decode cX4_goOnFrom 56 = .ok (.invokevirtual 56, 3) := dcB (j := 20) (f := Instr.invokevirtual) sX4_goOnFrom_36 rfl op_182 rfl
theorem dX4_goOnFrom_59 : decode cX4_goOnFrom 59 = .ok (.if_icmp .gt 102, 3) := dcTp (j := 23) (v := 102) (f := Instr.if_icmp .gt) sX4_goOnFrom_36 rfl op_163 rfl rfl
theorem dX4_goOnFrom_62 : decode cX4_goOnFrom 62 = .ok (.iconst 0, 1) := dc0 (j := 26) sX4_goOnFrom_36 rfl op_3
theorem dX4_goOnFrom_63 : decode cX4_goOnFrom 63 = .ok (.istore 6, 2) := dcA (j := 27) (f := Instr.istore) sX4_goOnFrom_36 rfl op_54
theorem dX4_goOnFrom_65 : decode cX4_goOnFrom 65 = .ok (.iload 6, 2) := dcA (j := 29) (f := Instr.iload) sX4_goOnFrom_36 rfl op_21
theorem dX4_goOnFrom_67 : decode cX4_goOnFrom 67 = .ok (.aload_n 1, 1) := dc0 (j := 31) sX4_goOnFrom_36 rfl op_43
theorem dX4_goOnFrom_68 : decode cX4_goOnFrom 68 = .ok (.getfield 62, 3) := dcB (j := 32) (f := Instr.getfield) sX4_goOnFrom_36 rfl op_180 rfl
theorem sX4_goOnFrom_71 : sgm cX4_goOnFrom 71 [162, 0, 39, 42, 180, 0, 25, 21, 6, 42, 180, 0, 19, 21, 6, 46, 42, 180, 0, 28, 6, 21, 5, 104, 21, 6, 96, 46, 96, 184, 0, 101, 79, 132, 6, 1] := by decide +kernel
theorem dX4_goOnFrom_71 : decode cX4_goOnFrom 71 = .ok (.if_icmp .ge 39, 3) := dcTp (j := 0) (v := 39) (f := Instr.if_icmp .ge) sX4_goOnFrom_71 rfl op_162 rfl rfl
theorem dX4_goOnFrom_74 : decode cX4_goOnFrom 74 = .ok (.aload_n 0, 1) := dc0 (j := 3) sX4_goOnFrom_71 rfl op_42
theorem dX4_goOnFrom_75 : decode cX4_goOnFrom 75 = .ok (.getfield 25, 3) := dcB (j := 4) (f := Instr.getfield) sX4_goOnFrom_71 rfl op_180 rfl
theorem dX4_goOnFrom_78 : decode cX4_goOnFrom 78 = .ok (.iload 6, 2) := dcA (j := 7) (f := Instr.iload) sX4_goOnFrom_71 rfl op_21
theorem dX4_goOnFrom_80 : decode cX4_goOnFrom 80 = .ok (.aload_n 0, 1) := dc0 (j := 9) sX4_goOnFrom_71 rfl op_42
theorem dX4_goOnFrom_81 : decode cX4_goOnFrom 81 = .ok (.getfield 19, 3) := dcB (j := 10) (f := Instr.getfield) sX4_goOnFrom_71 rfl op_180 rfl
theorem dX4_goOnFrom_84 : decode cX4_goOnFrom 84 = .ok (.iload 6, 2) := dcA (j := 13) (f := Instr.iload) sX4_goOnFrom_71 rfl op_21
theorem dX4_goOnFrom_86 : decode cX4_goOnFrom 86 = .ok (.iaload, 1) := dc0 (j := 15) sX4_goOnFrom_71 rfl op_46
theorem dX4_goOnFrom_87 : decode cX4_goOnFrom 87 = .ok (.aload_n 0, 1) := dc0 (j := 16) sX4_goOnFrom_71 rfl op_42
theorem dX4_goOnFrom_88 : decode cX4_goOnFrom 88 = .ok (.getfield 28, 3) := dcB (j := 17) (f := Instr.getfield) sX4_goOnFrom_71 rfl op_180 rfl
theorem dX4_goOnFrom_91 : decode cX4_goOnFrom 91 = .ok (.iconst 3, 1) := dc0 (j := 20) sX4_goOnFrom_71 rfl op_6
theorem dX4_goOnFrom_92 : decode cX4_goOnFrom 92 = .ok (.iload 5, 2) := dcA (j := 21) (f := Instr.iload) sX4_goOnFrom_71 rfl op_21
theorem dX4_goOnFrom_94 : decode cX4_goOnFrom 94 = .ok (.imul, 1) := dc0 (j := 23) sX4_goOnFrom_71 rfl op_104
theorem dX4_goOnFrom_95 : decode cX4_goOnFrom 95 = .ok (.iload 6, 2) := dcA (j := 24) (f := Instr.iload) sX4_goOnFrom_71 rfl op_21
theorem dX4_goOnFrom_97 : decode cX4_goOnFrom 97 = .ok (.iadd, 1) := dc0 (j := 26) sX4_goOnFrom_71 rfl op_96
theorem dX4_goOnFrom_98 : decode cX4_goOnFrom 98 = .ok (.iaload, 1) := dc0 (j := 27) sX4_goOnFrom_71 rfl op_46
theorem dX4_goOnFrom_99 : decode cX4_goOnFrom 99 = .ok (.iadd, 1) := dc0 (j := 28) sX4_goOnFrom_71 rfl op_96
theorem dX4_goOnFrom_100 : decode cX4_goOnFrom 100 = .ok (.invokestatic 101, 3) := dcB (j := 29) (f := Instr.invokestatic) sX4_goOnFrom_71 rfl op_184 rfl
theorem dX4_goOnFrom_103 : decode cX4_goOnFrom 103 = .ok (.iastore, 1) := dc0 (j := 32) sX4_goOnFrom_71 rfl op_79
theorem dX4_goOnFrom_104 : decode cX4_goOnFrom 104 = .ok (.iinc 6 1, 3) := dcIp (j := 33) sX4_goOnFrom_71 rfl op_132 rfl
theorem sX4_goOnFrom_107 : sgm cX4_goOnFrom 107 [167, 255, 214, 3, 54, 6, 21, 6, 21, 4, 163, 0, 38, 21, 6, 21, 4, 2, 130, 126, 154, 0, 22, 21, 6, 21, 5, 126, 154, 0, 14, 42, 42, 43, 21, 6] := by decide +kernel
theorem dX4_goOnFrom_107 : decode cX4_goOnFrom 107 = .ok (.goto (-42), 3) := dcTn (j := 0) (v := 42) (f := Instr.goto) sX4_goOnFrom_107 rfl op_167 rfl rfl rfl
theorem dX4_goOnFrom_110 : decode cX4_goOnFrom 110 = .ok (.iconst 0, 1) := dc0 (j := 3) sX4_goOnFrom_107 rfl op_3
theorem dX4_goOnFrom_111 : decode cX4_goOnFrom 111 = .ok (.istore 6, 2) := dcA (j := 4) (f := Instr.istore) sX4_goOnFrom_107 rfl op_54
theorem dX4_goOnFrom_113 : decode cX4_goOnFrom 113 = .ok (.iload 6, 2) := dcA (j := 6) (f := Instr.iload) sX4_goOnFrom_107 rfl op_21
theorem dX4_goOnFrom_115 : decode cX4_goOnFrom 115 = .ok (.iload 4, 2) := dcA (j := 8) (f := Instr.iload) sX4_goOnFrom_107 rfl op_21
theorem dX4_goOnFrom_117 : decode cX4_goOnFrom 117 = .ok (.if_icmp .gt 38, 3) := dcTp (j := 10) (v := 38) (f := Instr.if_icmp .gt) sX4_goOnFrom_107 rfl op_163 rfl rfl
theorem dX4_goOnFrom_120 : decode cX4_goOnFrom 120 = .ok (.iload 6, 2) := dcA (j := 13) (f := Instr.iload) sX4_goOnFrom_107 rfl op_21
theorem dX4_goOnFrom_122 : decode cX4_goOnFrom 122 = .ok (.iload 4, 2) := dcA (j := 15) (f := Instr.iload) sX4_goOnFrom_107 rfl op_21
theorem dX4_goOnFrom_124 : decode cX4_goOnFrom 124 = .ok (.iconst (-1), 1) := dc0 (j := 17) sX4_goOnFrom_107 rfl op_2
theorem dX4_goOnFrom_125 : decode cX4_goOnFrom 125 = .ok (.ixor, 1) := dc0 (j := 18) sX4_goOnFrom_107 rfl op_130
theorem dX4_goOnFrom_126 : decode cX4_goOnFrom 126 = .ok (.iand, 1) := dc0 (j := 19) sX4_goOnFrom_107 rfl op_126
theorem dX4_goOnFrom_127 : decode cX4_goOnFrom 127 = .ok (.ifCond .ne 22, 3) := dcTp (j := 20) (v := 22) (f := Instr.ifCond .ne) sX4_goOnFrom_107 rfl op_154 rfl rfl
theorem dX4_goOnFrom_130 : decode cX4_goOnFrom 130 = .ok (.iload 6, 2) := dcA (j := 23) (f := Instr.iload) sX4_goOnFrom_107 rfl op_21
theorem dX4_goOnFrom_132 : decode cX4_goOnFrom 132 = .ok (.iload 5, 2) := dcA (j := 25) (f := Instr.iload) sX4_goOnFrom_107 rfl op_21
theorem dX4_goOnFrom_134 : decode cX4_goOnFrom 134 = .ok (.iand, 1) := dc0 (j := 27) sX4_goOnFrom_107 rfl op_126
theorem dX4_goOnFrom_135 : decode cX4_goOnFrom 135 = .ok (.ifCond .ne 14, 3) := dcTp (j := 28) (v := 14) (f := Instr.ifCond .ne) sX4_goOnFrom_107 rfl op_154 rfl rfl
theorem dX4_goOnFrom_138 : decode cX4_goOnFrom 138 = .ok (.aload_n 0, 1) := dc0 (j := 31) sX4_goOnFrom_107 rfl op_42
theorem dX4_goOnFrom_139 : decode cX4_goOnFrom 139 = .ok (.aload_n 0, 1) := dc0 (j := 32) sX4_goOnFrom_107 rfl op_42
theorem dX4_goOnFrom_140 : decode cX4_goOnFrom 140 = .ok (.aload_n 1, 1) := dc0 (j := 33) sX4_goOnFrom_107 rfl op_43
theorem dX4_goOnFrom_141 : decode cX4_goOnFrom 141 = .ok (.iload 6, 2) := dcA (j := 34) (f := Instr.iload) sX4_goOnFrom_107 rfl op_21
theorem sX4_goOnFrom_143 : sgm cX4_goOnFrom 143 [182, 0, 105, 182, 0, 86, 132, 6, 1, 167, 255, 217, 132, 5, 1, 167, 255, 151, 177] := by decide +kernel
theorem dX4_goOnFrom_143 : decode cX4_goOnFrom 143 = .ok (.invokevirtual 105, 3) := dcB (j := 0) (f := Instr.invokevirtual) sX4_goOnFrom_143 rfl op_182 rfl
theorem dX4_goOnFrom_146 : decode cX4_goOnFrom 146 = .ok (.invokevirtual 86, 3) := dcB (j := 3) (f := Instr.invokevirtual) sX4_goOnFrom_143 rfl op_182 rfl
theorem dX4_goOnFrom_149 : decode cX4_goOnFrom 149 = .ok (.iinc 6 1, 3) := dcIp (j := 6) sX4_goOnFrom_143 rfl op_132 rfl
theorem dX4_goOnFrom_152 : decode cX4_goOnFrom 152 = .ok (.goto (-39), 3) := dcTn (j := 9) (v := 39) (f := Instr.goto) sX4_goOnFrom_143 rfl op_167 rfl rfl rfl
theorem dX4_goOnFrom_155 : decode cX4_goOnFrom 155 = .ok (.iinc 5 1, 3) := dcIp (j := 12) sX4_goOnFrom_143 rfl op_132 rfl
theorem dX4_goOnFrom_158 : decode cX4_goOnFrom 158 = .ok (.goto (-105), 3) := dcTn (j := 15) (v := 105) (f := Instr.goto) sX4_goOnFrom_143 rfl op_167 rfl rfl rfl
theorem dX4_goOnFrom_161 : decode cX4_goOnFrom 161 = .ok (.return_, 1) := dc0 (j := 18) sX4_goOnFrom_143 rfl op_177
theorem sX4_behindStrokes_0 : sgm cX4_behindStrokes 0 [9, 66, 3, 54, 5, 21, 5, 43, 180, 0, 62, 162, 0, 98, 28, 21, 5, 184, 0, 109, 153, 0, 15, 42, 180, 0, 22, 21, 5, 46, 4, 96, 167, 0, 10, 42] := by decide +kernel
theorem dX4_behindStrokes_0 : decode cX4_behindStrokes 0 = .ok (.lconst 0, 1) := dc0 (j := 0) sX4_behindStrokes_0 rfl op_9
theorem dX4_behindStrokes_1 : decode cX4_behindStrokes 1 = .ok (.lstore_n 3, 1) := dc0 (j := 1) sX4_behindStrokes_0 rfl op_66
theorem dX4_behindStrokes_2 : decode cX4_behindStrokes 2 = .ok (.iconst 0, 1) := dc0 (j := 2) sX4_behindStrokes_0 rfl op_3
theorem dX4_behindStrokes_3 : decode cX4_behindStrokes 3 = .ok (.istore 5, 2) := dcA (j := 3) (f := Instr.istore) sX4_behindStrokes_0 rfl op_54
theorem dX4_behindStrokes_5 : decode cX4_behindStrokes 5 = .ok (.iload 5, 2) := dcA (j := 5) (f := Instr.iload) sX4_behindStrokes_0 rfl op_21
theorem dX4_behindStrokes_7 : decode cX4_behindStrokes 7 = .ok (.aload_n 1, 1) := dc0 (j := 7) sX4_behindStrokes_0 rfl op_43
theorem dX4_behindStrokes_8 : decode cX4_behindStrokes 8 = .ok (.getfield 62, 3) := dcB (j := 8) (f := Instr.getfield) sX4_behindStrokes_0 rfl op_180 rfl
theorem dX4_behindStrokes_11 : decode cX4_behindStrokes 11 = .ok (.if_icmp .ge 98, 3) := dcTp (j := 11) (v := 98) (f := Instr.if_icmp .ge) sX4_behindStrokes_0 rfl op_162 rfl rfl
theorem dX4_behindStrokes_14 : decode cX4_behindStrokes 14 = .ok (.iload_n 2, 1) := dc0 (j := 14) sX4_behindStrokes_0 rfl op_28
theorem dX4_behindStrokes_15 : decode cX4_behindStrokes 15 = .ok (.iload 5, 2) := dcA (j := 15) (f := Instr.iload) sX4_behindStrokes_0 rfl op_21
theorem dX4_behindStrokes_17 : decode cX4_behindStrokes 17 = .ok (.invokestatic 109, 3) := dcB (j := 17) (f := Instr.invokestatic) sX4_behindStrokes_0 rfl op_184 rfl
theorem dX4_behindStrokes_20 : decode cX4_behindStrokes 20 = .ok (.ifCond .eq 15, 3) := dcTp (j := 20) (v := 15) (f := Instr.ifCond .eq) sX4_behindStrokes_0 rfl op_153 rfl rfl
theorem dX4_behindStrokes_23 : decode cX4_behindStrokes 23 = .ok (.aload_n 0, 1) := dc0 (j := 23) sX4_behindStrokes_0 rfl op_42
theorem dX4_behindStrokes_24 : decode cX4_behindStrokes 24 = .ok (.getfield 22, 3) := dcB (j := 24) (f := Instr.getfield) sX4_behindStrokes_0 rfl op_180 rfl
theorem dX4_behindStrokes_27 : decode cX4_behindStrokes 27 = .ok (.iload 5, 2) := dcA (j := 27) (f := Instr.iload) sX4_behindStrokes_0 rfl op_21
theorem dX4_behindStrokes_29 : decode cX4_behindStrokes 29 = .ok (.iaload, 1) := dc0 (j := 29) sX4_behindStrokes_0 rfl op_46
theorem dX4_behindStrokes_30 : decode cX4_behindStrokes 30 = .ok (.iconst 1, 1) := dc0 (j := 30) sX4_behindStrokes_0 rfl op_4
theorem dX4_behindStrokes_31 : decode cX4_behindStrokes 31 = .ok (.iadd, 1) := dc0 (j := 31) sX4_behindStrokes_0 rfl op_96
theorem dX4_behindStrokes_32 : decode cX4_behindStrokes 32 = .ok (.goto 10, 3) := dcTp (j := 32) (v := 10) (f := Instr.goto) sX4_behindStrokes_0 rfl op_167 rfl rfl
theorem dX4_behindStrokes_35 : decode cX4_behindStrokes 35 = .ok (.aload_n 0, 1) := dc0 (j := 35) sX4_behindStrokes_0 rfl op_42
theorem sX4_behindStrokes_36 : sgm cX4_behindStrokes 36 [180, 0, 22, 21, 5, 46, 54, 6, 21, 6, 43, 180, 0, 74, 21, 5, 46, 162, 0, 33, 42, 180, 0, 25, 21, 5, 46, 43, 180, 0, 112, 21, 5, 46] := by decide +kernel
theorem dX4_behindStrokes_36 : decode cX4_behindStrokes 36 = .ok (.getfield 22, 3) := dcB (j := 0) (f := Instr.getfield) sX4_behindStrokes_36 rfl op_180 rfl
theorem dX4_behindStrokes_39 : decode cX4_behindStrokes 39 = .ok (.iload 5, 2) := dcA (j := 3) (f := Instr.iload) sX4_behindStrokes_36 rfl op_21
theorem dX4_behindStrokes_41 : decode cX4_behindStrokes 41 = .ok (.iaload, 1) := dc0 (j := 5) sX4_behindStrokes_36 rfl op_46
theorem dX4_behindStrokes_42 : decode cX4_behindStrokes 42 = .ok (.istore 6, 2) := dcA (j := 6) (f := Instr.istore) sX4_behindStrokes_36 rfl op_54
theorem dX4_behindStrokes_44 : decode cX4_behindStrokes 44 = .ok (.iload 6, 2) := dcA (j := 8) (f := Instr.iload) sX4_behindStrokes_36 rfl op_21
theorem dX4_behindStrokes_46 : decode cX4_behindStrokes 46 = .ok (.aload_n 1, 1) := dc0 (j := 10) sX4_behindStrokes_36 rfl op_43
theorem dX4_behindStrokes_47 : decode cX4_behindStrokes 47 = .ok (.getfield 74, 3) := dcB (j := 11) (f := Instr.getfield) sX4_behindStrokes_36 rfl op_180 rfl
theorem dX4_behindStrokes_50 : decode cX4_behindStrokes 50 = .ok (.iload 5, 2) := dcA (j := 14) (f := Instr.iload) sX4_behindStrokes_36 rfl op_21
theorem dX4_behindStrokes_52 : decode cX4_behindStrokes 52 = .ok (.iaload, 1) := dc0 (j := 16) sX4_behindStrokes_36 rfl op_46
theorem dX4_behindStrokes_53 : decode cX4_behindStrokes 53 = .ok (.if_icmp .ge 33, 3) := dcTp (j := 17) (v := 33) (f := Instr.if_icmp .ge) sX4_behindStrokes_36 rfl op_162 rfl rfl
theorem dX4_behindStrokes_56 : decode cX4_behindStrokes 56 = .ok (.aload_n 0, 1) := dc0 (j := 20) sX4_behindStrokes_36 rfl op_42
theorem dX4_behindStrokes_57 : decode cX4_behindStrokes 57 = .ok (.getfield 25, 3) := dcB (j := 21) (f := Instr.getfield) sX4_behindStrokes_36 rfl op_180 rfl
theorem dX4_behindStrokes_60 : decode cX4_behindStrokes 60 = .ok (.iload 5, 2) := dcA (j := 24) (f := Instr.iload) sX4_behindStrokes_36 rfl op_21
theorem dX4_behindStrokes_62 : decode cX4_behindStrokes 62 = .ok (.iaload, 1) := dc0 (j := 26) sX4_behindStrokes_36 rfl op_46
theorem dX4_behindStrokes_63 : decode cX4_behindStrokes 63 = .ok (.aload_n 1, 1) := dc0 (j := 27) sX4_behindStrokes_36 rfl op_43
theorem dX4_behindStrokes_64 : decode cX4_behindStrokes 64 = .ok (.getfield 112, 3) := dcB (j := 28) (f := Instr.getfield) sX4_behindStrokes_36 rfl op_180 rfl
theorem dX4_behindStrokes_67 : decode cX4_behindStrokes 67 = .ok (.iload 5, 2) := dcA (j := 31) (f := Instr.iload) sX4_behindStrokes_36 rfl op_21
theorem dX4_behindStrokes_69 : decode cX4_behindStrokes 69 = .ok (.iaload, 1) := dc0 (j := 33) sX4_behindStrokes_36 rfl op_46
theorem sX4_behindStrokes_70 : sgm cX4_behindStrokes 70 [164, 0, 16, 3, 21, 6, 43, 180, 0, 115, 100, 184, 0, 118, 54, 6, 33, 21, 5, 42, 180, 0, 25, 21, 5, 46, 21, 6, 184, 0, 82, 129, 66, 132, 5, 1] := by decide +kernel
theorem dX4_behindStrokes_70 : decode cX4_behindStrokes 70 = .ok (.if_icmp .le 16, 3) := dcTp (j := 0) (v := 16) (f := Instr.if_icmp .le) sX4_behindStrokes_70 rfl op_164 rfl rfl
theorem dX4_behindStrokes_73 : decode cX4_behindStrokes 73 = .ok (.iconst 0, 1) := dc0 (j := 3) sX4_behindStrokes_70 rfl op_3
theorem dX4_behindStrokes_74 : decode cX4_behindStrokes 74 = .ok (.iload 6, 2) := dcA (j := 4) (f := Instr.iload) sX4_behindStrokes_70 rfl op_21
theorem dX4_behindStrokes_76 : decode cX4_behindStrokes 76 = .ok (.aload_n 1, 1) := dc0 (j := 6) sX4_behindStrokes_70 rfl op_43
theorem dX4_behindStrokes_77 : decode cX4_behindStrokes 77 = .ok (.getfield 115, 3) := dcB (j := 7) (f := Instr.getfield) sX4_behindStrokes_70 rfl op_180 rfl
theorem dX4_behindStrokes_80 : decode cX4_behindStrokes 80 = .ok (.isub, 1) := dc0 (j := 10) sX4_behindStrokes_70 rfl op_100
theorem dX4_behindStrokes_81 : decode cX4_behindStrokes 81 = .ok (.invokestatic 118, 3) := dcB (j := 11) (f := Instr.invokestatic) sX4_behindStrokes_70 rfl op_184 rfl
theorem dX4_behindStrokes_84 : decode cX4_behindStrokes 84 = .ok (.istore 6, 2) := dcA (j := 14) (f := Instr.istore) sX4_behindStrokes_70 rfl op_54
theorem dX4_behindStrokes_86 : decode cX4_behindStrokes 86 = .ok (.lload_n 3, 1) := dc0 (j := 16) sX4_behindStrokes_70 rfl op_33
theorem dX4_behindStrokes_87 : decode cX4_behindStrokes 87 = .ok (.iload 5, 2) := dcA (j := 17) (f := Instr.iload) sX4_behindStrokes_70 rfl op_21
theorem dX4_behindStrokes_89 : decode cX4_behindStrokes 89 = .ok (.aload_n 0, 1) := dc0 (j := 19) sX4_behindStrokes_70 rfl op_42
theorem dX4_behindStrokes_90 : decode cX4_behindStrokes 90 = .ok (.getfield 25, 3) := dcB (j := 20) (f := Instr.getfield) sX4_behindStrokes_70 rfl op_180 rfl
theorem dX4_behindStrokes_93 : decode cX4_behindStrokes 93 = .ok (.iload 5, 2) := dcA (j := 23) (f := Instr.iload) sX4_behindStrokes_70 rfl op_21
theorem dX4_behindStrokes_95 : decode cX4_behindStrokes 95 = .ok (.iaload, 1) := dc0 (j := 25) sX4_behindStrokes_70 rfl op_46
theorem dX4_behindStrokes_96 : decode cX4_behindStrokes 96 = .ok (.iload 6, 2) := dcA (j := 26) (f := Instr.iload) sX4_behindStrokes_70 rfl op_21
theorem dX4_behindStrokes_98 : decode cX4_behindStrokes 98 = .ok (.invokestatic 82, 3) := dcB (j := 28) (f := Instr.invokestatic) sX4_behindStrokes_70 rfl op_184 rfl
theorem dX4_behindStrokes_101 : decode cX4_behindStrokes 101 = .ok (.lor, 1) := dc0 (j := 31) sX4_behindStrokes_70 rfl op_129
theorem dX4_behindStrokes_102 : decode cX4_behindStrokes 102 = .ok (.lstore_n 3, 1) := dc0 (j := 32) sX4_behindStrokes_70 rfl op_66
theorem dX4_behindStrokes_103 : decode cX4_behindStrokes 103 = .ok (.iinc 5 1, 3) := dcIp (j := 33) sX4_behindStrokes_70 rfl op_132 rfl
theorem sX4_behindStrokes_106 : sgm cX4_behindStrokes 106 [167, 255, 155, 33, 173] := by decide +kernel
theorem dX4_behindStrokes_106 : decode cX4_behindStrokes 106 = .ok (.goto (-101), 3) := dcTn (j := 0) (v := 101) (f := Instr.goto) sX4_behindStrokes_106 rfl op_167 rfl rfl rfl
theorem dX4_behindStrokes_109 : decode cX4_behindStrokes 109 = .ok (.lload_n 3, 1) := dc0 (j := 3) sX4_behindStrokes_106 rfl op_33
theorem dX4_behindStrokes_110 : decode cX4_behindStrokes 110 = .ok (.lreturn, 1) := dc0 (j := 4) sX4_behindStrokes_106 rfl op_173
theorem sX4_meet_0 : sgm cX4_meet 0 [31, 20, 0, 121, 105, 16, 51, 125, 136, 62, 3, 54, 4, 21, 4, 17, 32, 0, 162, 0, 54, 42, 180, 0, 15, 29, 46, 153, 0, 45, 42, 180, 0, 11, 42] := by decide +kernel
theorem dX4_meet_0 : decode cX4_meet 0 = .ok (.lload_n 1, 1) := dc0 (j := 0) sX4_meet_0 rfl op_31
theorem dX4_meet_1 : decode cX4_meet 1 = .ok (.ldc2_w 121, 3) := dcB (j := 1) (f := Instr.ldc2_w) sX4_meet_0 rfl op_20 rfl
theorem dX4_meet_4 : decode cX4_meet 4 = .ok (.lmul, 1) := dc0 (j := 4) sX4_meet_0 rfl op_105
theorem dX4_meet_5 : decode cX4_meet 5 = .ok (.bipush 51, 2) := dcSp (j := 5) (a := 51) (f := Instr.bipush) sX4_meet_0 rfl op_16 rfl
theorem dX4_meet_7 : decode cX4_meet 7 = .ok (.lushr, 1) := dc0 (j := 7) sX4_meet_0 rfl op_125
theorem dX4_meet_8 : decode cX4_meet 8 = .ok (.l2i, 1) := dc0 (j := 8) sX4_meet_0 rfl op_136
theorem dX4_meet_9 : decode cX4_meet 9 = .ok (.istore_n 3, 1) := dc0 (j := 9) sX4_meet_0 rfl op_62
theorem dX4_meet_10 : decode cX4_meet 10 = .ok (.iconst 0, 1) := dc0 (j := 10) sX4_meet_0 rfl op_3
theorem dX4_meet_11 : decode cX4_meet 11 = .ok (.istore 4, 2) := dcA (j := 11) (f := Instr.istore) sX4_meet_0 rfl op_54
theorem dX4_meet_13 : decode cX4_meet 13 = .ok (.iload 4, 2) := dcA (j := 13) (f := Instr.iload) sX4_meet_0 rfl op_21
theorem dX4_meet_15 : decode cX4_meet 15 = .ok (.sipush 8192, 3) := dcTp (j := 15) (v := 8192) (f := Instr.sipush) sX4_meet_0 rfl op_17 rfl rfl
theorem dX4_meet_18 : decode cX4_meet 18 = .ok (.if_icmp .ge 54, 3) := dcTp (j := 18) (v := 54) (f := Instr.if_icmp .ge) sX4_meet_0 rfl op_162 rfl rfl
theorem dX4_meet_21 : decode cX4_meet 21 = .ok (.aload_n 0, 1) := dc0 (j := 21) sX4_meet_0 rfl op_42
theorem dX4_meet_22 : decode cX4_meet 22 = .ok (.getfield 15, 3) := dcB (j := 22) (f := Instr.getfield) sX4_meet_0 rfl op_180 rfl
theorem dX4_meet_25 : decode cX4_meet 25 = .ok (.iload_n 3, 1) := dc0 (j := 25) sX4_meet_0 rfl op_29
theorem dX4_meet_26 : decode cX4_meet 26 = .ok (.iaload, 1) := dc0 (j := 26) sX4_meet_0 rfl op_46
theorem dX4_meet_27 : decode cX4_meet 27 = .ok (.ifCond .eq 45, 3) := dcTp (j := 27) (v := 45) (f := Instr.ifCond .eq) sX4_meet_0 rfl op_153 rfl rfl
theorem dX4_meet_30 : decode cX4_meet 30 = .ok (.aload_n 0, 1) := dc0 (j := 30) sX4_meet_0 rfl op_42
theorem dX4_meet_31 : decode cX4_meet 31 = .ok (.getfield 11, 3) := dcB (j := 31) (f := Instr.getfield) sX4_meet_0 rfl op_180 rfl
theorem dX4_meet_34 : decode cX4_meet 34 = .ok (.aload_n 0, 1) := dc0 (j := 34) sX4_meet_0 rfl op_42
theorem sX4_meet_35 : sgm cX4_meet 35 [180, 0, 15, 29, 46, 4, 100, 47, 31, 148, 154, 0, 4, 177, 29, 4, 96, 17, 32, 0, 162, 0, 9, 29, 4, 96, 167, 0, 4, 3, 62, 132, 4, 1] := by decide +kernel
theorem dX4_meet_35 : decode cX4_meet 35 = .ok (.getfield 15, 3) := dcB (j := 0) (f := Instr.getfield) sX4_meet_35 rfl op_180 rfl
theorem dX4_meet_38 : decode cX4_meet 38 = .ok (.iload_n 3, 1) := dc0 (j := 3) sX4_meet_35 rfl op_29
theorem dX4_meet_39 : decode cX4_meet 39 = .ok (.iaload, 1) := dc0 (j := 4) sX4_meet_35 rfl op_46
theorem dX4_meet_40 : decode cX4_meet 40 = .ok (.iconst 1, 1) := dc0 (j := 5) sX4_meet_35 rfl op_4
theorem dX4_meet_41 : decode cX4_meet 41 = .ok (.isub, 1) := dc0 (j := 6) sX4_meet_35 rfl op_100
theorem dX4_meet_42 : decode cX4_meet 42 = .ok (.laload, 1) := dc0 (j := 7) sX4_meet_35 rfl op_47
theorem dX4_meet_43 : decode cX4_meet 43 = .ok (.lload_n 1, 1) := dc0 (j := 8) sX4_meet_35 rfl op_31
theorem dX4_meet_44 : decode cX4_meet 44 = .ok (.lcmp, 1) := dc0 (j := 9) sX4_meet_35 rfl op_148
theorem dX4_meet_45 : decode cX4_meet 45 = .ok (.ifCond .ne 4, 3) := dcTp (j := 10) (v := 4) (f := Instr.ifCond .ne) sX4_meet_35 rfl op_154 rfl rfl
theorem dX4_meet_48 : decode cX4_meet 48 = .ok (.return_, 1) := dc0 (j := 13) sX4_meet_35 rfl op_177
theorem dX4_meet_49 : decode cX4_meet 49 = .ok (.iload_n 3, 1) := dc0 (j := 14) sX4_meet_35 rfl op_29
theorem dX4_meet_50 : decode cX4_meet 50 = .ok (.iconst 1, 1) := dc0 (j := 15) sX4_meet_35 rfl op_4
theorem dX4_meet_51 : decode cX4_meet 51 = .ok (.iadd, 1) := dc0 (j := 16) sX4_meet_35 rfl op_96
theorem dX4_meet_52 : decode cX4_meet 52 = .ok (.sipush 8192, 3) := dcTp (j := 17) (v := 8192) (f := Instr.sipush) sX4_meet_35 rfl op_17 rfl rfl
theorem dX4_meet_55 : decode cX4_meet 55 = .ok (.if_icmp .ge 9, 3) := dcTp (j := 20) (v := 9) (f := Instr.if_icmp .ge) sX4_meet_35 rfl op_162 rfl rfl
theorem dX4_meet_58 : decode cX4_meet 58 = .ok (.iload_n 3, 1) := dc0 (j := 23) sX4_meet_35 rfl op_29
theorem dX4_meet_59 : decode cX4_meet 59 = .ok (.iconst 1, 1) := dc0 (j := 24) sX4_meet_35 rfl op_4
theorem dX4_meet_60 : decode cX4_meet 60 = .ok (.iadd, 1) := dc0 (j := 25) sX4_meet_35 rfl op_96
theorem dX4_meet_61 : decode cX4_meet 61 = .ok (.goto 4, 3) := dcTp (j := 26) (v := 4) (f := Instr.goto) sX4_meet_35 rfl op_167 rfl rfl
theorem dX4_meet_64 : decode cX4_meet 64 = .ok (.iconst 0, 1) := dc0 (j := 29) sX4_meet_35 rfl op_3
theorem dX4_meet_65 : decode cX4_meet 65 = .ok (.istore_n 3, 1) := dc0 (j := 30) sX4_meet_35 rfl op_62
theorem dX4_meet_66 : decode cX4_meet 66 = .ok (.iinc 4 1, 3) := dcIp (j := 31) sX4_meet_35 rfl op_132 rfl
theorem sX4_meet_69 : sgm cX4_meet 69 [167, 255, 200, 42, 180, 0, 37, 17, 11, 184, 163, 0, 33, 42, 180, 0, 11, 42, 180, 0, 37, 31, 80, 42, 89, 180, 0, 37, 4, 96, 181, 0, 37, 42] := by decide +kernel
theorem dX4_meet_69 : decode cX4_meet 69 = .ok (.goto (-56), 3) := dcTn (j := 0) (v := 56) (f := Instr.goto) sX4_meet_69 rfl op_167 rfl rfl rfl
theorem dX4_meet_72 : decode cX4_meet 72 = .ok (.aload_n 0, 1) := dc0 (j := 3) sX4_meet_69 rfl op_42
theorem dX4_meet_73 : decode cX4_meet 73 = .ok (.getfield 37, 3) := dcB (j := 4) (f := Instr.getfield) sX4_meet_69 rfl op_180 rfl
theorem dX4_meet_76 : decode cX4_meet 76 = .ok (.sipush 3000, 3) := dcTp (j := 7) (v := 3000) (f := Instr.sipush) sX4_meet_69 rfl op_17 rfl rfl
theorem dX4_meet_79 : decode cX4_meet 79 = .ok (.if_icmp .gt 33, 3) := dcTp (j := 10) (v := 33) (f := Instr.if_icmp .gt) sX4_meet_69 rfl op_163 rfl rfl
theorem dX4_meet_82 : decode cX4_meet 82 = .ok (.aload_n 0, 1) := dc0 (j := 13) sX4_meet_69 rfl op_42
theorem dX4_meet_83 : decode cX4_meet 83 = .ok (.getfield 11, 3) := dcB (j := 14) (f := Instr.getfield) sX4_meet_69 rfl op_180 rfl
theorem dX4_meet_86 : decode cX4_meet 86 = .ok (.aload_n 0, 1) := dc0 (j := 17) sX4_meet_69 rfl op_42
theorem dX4_meet_87 : decode cX4_meet 87 = .ok (.getfield 37, 3) := dcB (j := 18) (f := Instr.getfield) sX4_meet_69 rfl op_180 rfl
theorem dX4_meet_90 : decode cX4_meet 90 = .ok (.lload_n 1, 1) := dc0 (j := 21) sX4_meet_69 rfl op_31
theorem dX4_meet_91 : decode cX4_meet 91 = .ok (.lastore, 1) := dc0 (j := 22) sX4_meet_69 rfl op_80
theorem dX4_meet_92 : decode cX4_meet 92 = .ok (.aload_n 0, 1) := dc0 (j := 23) sX4_meet_69 rfl op_42
theorem dX4_meet_93 : decode cX4_meet 93 = .ok (.dup, 1) := dc0 (j := 24) sX4_meet_69 rfl op_89
theorem dX4_meet_94 : decode cX4_meet 94 = .ok (.getfield 37, 3) := dcB (j := 25) (f := Instr.getfield) sX4_meet_69 rfl op_180 rfl
theorem dX4_meet_97 : decode cX4_meet 97 = .ok (.iconst 1, 1) := dc0 (j := 28) sX4_meet_69 rfl op_4
theorem dX4_meet_98 : decode cX4_meet 98 = .ok (.iadd, 1) := dc0 (j := 29) sX4_meet_69 rfl op_96
theorem dX4_meet_99 : decode cX4_meet 99 = .ok (.putfield 37, 3) := dcB (j := 30) (f := Instr.putfield) sX4_meet_69 rfl op_181 rfl
theorem dX4_meet_102 : decode cX4_meet 102 = .ok (.aload_n 0, 1) := dc0 (j := 33) sX4_meet_69 rfl op_42
theorem sX4_meet_103 : sgm cX4_meet 103 [180, 0, 15, 29, 42, 180, 0, 37, 79, 177] := by decide +kernel
theorem dX4_meet_103 : decode cX4_meet 103 = .ok (.getfield 15, 3) := dcB (j := 0) (f := Instr.getfield) sX4_meet_103 rfl op_180 rfl
theorem dX4_meet_106 : decode cX4_meet 106 = .ok (.iload_n 3, 1) := dc0 (j := 3) sX4_meet_103 rfl op_29
theorem dX4_meet_107 : decode cX4_meet 107 = .ok (.aload_n 0, 1) := dc0 (j := 4) sX4_meet_103 rfl op_42
theorem dX4_meet_108 : decode cX4_meet 108 = .ok (.getfield 37, 3) := dcB (j := 5) (f := Instr.getfield) sX4_meet_103 rfl op_180 rfl
theorem dX4_meet_111 : decode cX4_meet 111 = .ok (.iastore, 1) := dc0 (j := 8) sX4_meet_103 rfl op_79
theorem dX4_meet_112 : decode cX4_meet 112 = .ok (.return_, 1) := dc0 (j := 9) sX4_meet_103 rfl op_177
theorem sX5_init_0 : sgm cX5_init 0 [42, 183, 0, 3, 42, 16, 20, 181, 0, 9, 42, 16, 10, 188, 10, 181, 0, 15, 42, 16, 10, 188, 10, 181, 0, 19, 42, 16, 10, 188, 10, 181, 0, 22, 42] := by decide +kernel
theorem dX5_init_0 : decode cX5_init 0 = .ok (.aload_n 0, 1) := dc0 (j := 0) sX5_init_0 rfl op_42
theorem dX5_init_1 : decode cX5_init 1 = .ok (.invokespecial 3, 3) := dcB (j := 1) (f := Instr.invokespecial) sX5_init_0 rfl op_183 rfl
theorem dX5_init_4 : decode cX5_init 4 = .ok (.aload_n 0, 1) := dc0 (j := 4) sX5_init_0 rfl op_42
theorem dX5_init_5 : decode cX5_init 5 = .ok (.bipush 20, 2) := dcSp (j := 5) (a := 20) (f := Instr.bipush) sX5_init_0 rfl op_16 rfl
theorem dX5_init_7 : decode cX5_init 7 = .ok (.putfield 9, 3) := dcB (j := 7) (f := Instr.putfield) sX5_init_0 rfl op_181 rfl
theorem dX5_init_10 : decode cX5_init 10 = .ok (.aload_n 0, 1) := dc0 (j := 10) sX5_init_0 rfl op_42
theorem dX5_init_11 : decode cX5_init 11 = .ok (.bipush 10, 2) := dcSp (j := 11) (a := 10) (f := Instr.bipush) sX5_init_0 rfl op_16 rfl
theorem dX5_init_13 : decode cX5_init 13 = .ok (.newarray .int, 2) := dcN (j := 13) sX5_init_0 rfl na_10
theorem dX5_init_15 : decode cX5_init 15 = .ok (.putfield 15, 3) := dcB (j := 15) (f := Instr.putfield) sX5_init_0 rfl op_181 rfl
theorem dX5_init_18 : decode cX5_init 18 = .ok (.aload_n 0, 1) := dc0 (j := 18) sX5_init_0 rfl op_42
theorem dX5_init_19 : decode cX5_init 19 = .ok (.bipush 10, 2) := dcSp (j := 19) (a := 10) (f := Instr.bipush) sX5_init_0 rfl op_16 rfl
theorem dX5_init_21 : decode cX5_init 21 = .ok (.newarray .int, 2) := dcN (j := 21) sX5_init_0 rfl na_10
theorem dX5_init_23 : decode cX5_init 23 = .ok (.putfield 19, 3) := dcB (j := 23) (f := Instr.putfield) sX5_init_0 rfl op_181 rfl
theorem dX5_init_26 : decode cX5_init 26 = .ok (.aload_n 0, 1) := dc0 (j := 26) sX5_init_0 rfl op_42
theorem dX5_init_27 : decode cX5_init 27 = .ok (.bipush 10, 2) := dcSp (j := 27) (a := 10) (f := Instr.bipush) sX5_init_0 rfl op_16 rfl
theorem dX5_init_29 : decode cX5_init 29 = .ok (.newarray .int, 2) := dcN (j := 29) sX5_init_0 rfl na_10
theorem dX5_init_31 : decode cX5_init 31 = .ok (.putfield 22, 3) := dcB (j := 31) (f := Instr.putfield) sX5_init_0 rfl op_181 rfl
theorem dX5_init_34 : decode cX5_init 34 = .ok (.aload_n 0, 1) := dc0 (j := 34) sX5_init_0 rfl op_42
theorem sX5_init_35 : sgm cX5_init 35 [16, 10, 188, 10, 181, 0, 25, 42, 16, 10, 188, 10, 181, 0, 28, 42, 16, 10, 188, 10, 181, 0, 31, 42, 16, 10, 188, 10, 181, 0, 34, 42, 16, 10, 188, 10] := by decide +kernel
theorem dX5_init_35 : decode cX5_init 35 = .ok (.bipush 10, 2) := dcSp (j := 0) (a := 10) (f := Instr.bipush) sX5_init_35 rfl op_16 rfl
theorem dX5_init_37 : decode cX5_init 37 = .ok (.newarray .int, 2) := dcN (j := 2) sX5_init_35 rfl na_10
theorem dX5_init_39 : decode cX5_init 39 = .ok (.putfield 25, 3) := dcB (j := 4) (f := Instr.putfield) sX5_init_35 rfl op_181 rfl
theorem dX5_init_42 : decode cX5_init 42 = .ok (.aload_n 0, 1) := dc0 (j := 7) sX5_init_35 rfl op_42
theorem dX5_init_43 : decode cX5_init 43 = .ok (.bipush 10, 2) := dcSp (j := 8) (a := 10) (f := Instr.bipush) sX5_init_35 rfl op_16 rfl
theorem dX5_init_45 : decode cX5_init 45 = .ok (.newarray .int, 2) := dcN (j := 10) sX5_init_35 rfl na_10
theorem dX5_init_47 : decode cX5_init 47 = .ok (.putfield 28, 3) := dcB (j := 12) (f := Instr.putfield) sX5_init_35 rfl op_181 rfl
theorem dX5_init_50 : decode cX5_init 50 = .ok (.aload_n 0, 1) := dc0 (j := 15) sX5_init_35 rfl op_42
theorem dX5_init_51 : decode cX5_init 51 = .ok (.bipush 10, 2) := dcSp (j := 16) (a := 10) (f := Instr.bipush) sX5_init_35 rfl op_16 rfl
theorem dX5_init_53 : decode cX5_init 53 = .ok (.newarray .int, 2) := dcN (j := 18) sX5_init_35 rfl na_10
theorem dX5_init_55 : decode cX5_init 55 = .ok (.putfield 31, 3) := dcB (j := 20) (f := Instr.putfield) sX5_init_35 rfl op_181 rfl
theorem dX5_init_58 : decode cX5_init 58 = .ok (.aload_n 0, 1) := dc0 (j := 23) sX5_init_35 rfl op_42
theorem dX5_init_59 : decode cX5_init 59 = .ok (.bipush 10, 2) := dcSp (j := 24) (a := 10) (f := Instr.bipush) sX5_init_35 rfl op_16 rfl
theorem dX5_init_61 : decode cX5_init 61 = .ok (.newarray .int, 2) := dcN (j := 26) sX5_init_35 rfl na_10
theorem dX5_init_63 : decode cX5_init 63 = .ok (.putfield 34, 3) := dcB (j := 28) (f := Instr.putfield) sX5_init_35 rfl op_181 rfl
theorem dX5_init_66 : decode cX5_init 66 = .ok (.aload_n 0, 1) := dc0 (j := 31) sX5_init_35 rfl op_42
theorem dX5_init_67 : decode cX5_init 67 = .ok (.bipush 10, 2) := dcSp (j := 32) (a := 10) (f := Instr.bipush) sX5_init_35 rfl op_16 rfl
theorem dX5_init_69 : decode cX5_init 69 = .ok (.newarray .int, 2) := dcN (j := 34) sX5_init_35 rfl na_10
theorem sX5_init_71 : sgm cX5_init 71 [181, 0, 37, 42, 16, 10, 188, 10, 181, 0, 40, 42, 16, 10, 188, 10, 181, 0, 43, 177] := by decide +kernel
theorem dX5_init_71 : decode cX5_init 71 = .ok (.putfield 37, 3) := dcB (j := 0) (f := Instr.putfield) sX5_init_71 rfl op_181 rfl
theorem dX5_init_74 : decode cX5_init 74 = .ok (.aload_n 0, 1) := dc0 (j := 3) sX5_init_71 rfl op_42
theorem dX5_init_75 : decode cX5_init 75 = .ok (.bipush 10, 2) := dcSp (j := 4) (a := 10) (f := Instr.bipush) sX5_init_71 rfl op_16 rfl
theorem dX5_init_77 : decode cX5_init 77 = .ok (.newarray .int, 2) := dcN (j := 6) sX5_init_71 rfl na_10
theorem dX5_init_79 : decode cX5_init 79 = .ok (.putfield 40, 3) := dcB (j := 8) (f := Instr.putfield) sX5_init_71 rfl op_181 rfl
theorem dX5_init_82 : decode cX5_init 82 = .ok (.aload_n 0, 1) := dc0 (j := 11) sX5_init_71 rfl op_42
theorem dX5_init_83 : decode cX5_init 83 = .ok (.bipush 10, 2) := dcSp (j := 12) (a := 10) (f := Instr.bipush) sX5_init_71 rfl op_16 rfl
theorem dX5_init_85 : decode cX5_init 85 = .ok (.newarray .int, 2) := dcN (j := 14) sX5_init_71 rfl na_10
theorem dX5_init_87 : decode cX5_init 87 = .ok (.putfield 43, 3) := dcB (j := 16) (f := Instr.putfield) sX5_init_71 rfl op_181 rfl
theorem dX5_init_90 : decode cX5_init 90 = .ok (.return_, 1) := dc0 (j := 19) sX5_init_71 rfl op_177
theorem sX5_takeFrom_0 : sgm cX5_takeFrom 0 [42, 43, 180, 0, 46, 181, 0, 46, 42, 43, 180, 0, 49, 181, 0, 49, 42, 43, 180, 0, 52, 181, 0, 52, 42, 43, 180, 0, 9, 181, 0, 9, 42, 43] := by decide +kernel
theorem dX5_takeFrom_0 : decode cX5_takeFrom 0 = .ok (.aload_n 0, 1) := dc0 (j := 0) sX5_takeFrom_0 rfl op_42
theorem dX5_takeFrom_1 : decode cX5_takeFrom 1 = .ok (.aload_n 1, 1) := dc0 (j := 1) sX5_takeFrom_0 rfl op_43
theorem dX5_takeFrom_2 : decode cX5_takeFrom 2 = .ok (.getfield 46, 3) := dcB (j := 2) (f := Instr.getfield) sX5_takeFrom_0 rfl op_180 rfl
theorem dX5_takeFrom_5 : decode cX5_takeFrom 5 = .ok (.putfield 46, 3) := dcB (j := 5) (f := Instr.putfield) sX5_takeFrom_0 rfl op_181 rfl
theorem dX5_takeFrom_8 : decode cX5_takeFrom 8 = .ok (.aload_n 0, 1) := dc0 (j := 8) sX5_takeFrom_0 rfl op_42
theorem dX5_takeFrom_9 : decode cX5_takeFrom 9 = .ok (.aload_n 1, 1) := dc0 (j := 9) sX5_takeFrom_0 rfl op_43
theorem dX5_takeFrom_10 : decode cX5_takeFrom 10 = .ok (.getfield 49, 3) := dcB (j := 10) (f := Instr.getfield) sX5_takeFrom_0 rfl op_180 rfl
theorem dX5_takeFrom_13 : decode cX5_takeFrom 13 = .ok (.putfield 49, 3) := dcB (j := 13) (f := Instr.putfield) sX5_takeFrom_0 rfl op_181 rfl
theorem dX5_takeFrom_16 : decode cX5_takeFrom 16 = .ok (.aload_n 0, 1) := dc0 (j := 16) sX5_takeFrom_0 rfl op_42
theorem dX5_takeFrom_17 : decode cX5_takeFrom 17 = .ok (.aload_n 1, 1) := dc0 (j := 17) sX5_takeFrom_0 rfl op_43
theorem dX5_takeFrom_18 : decode cX5_takeFrom 18 = .ok (.getfield 52, 3) := dcB (j := 18) (f := Instr.getfield) sX5_takeFrom_0 rfl op_180 rfl
theorem dX5_takeFrom_21 : decode cX5_takeFrom 21 = .ok (.putfield 52, 3) := dcB (j := 21) (f := Instr.putfield) sX5_takeFrom_0 rfl op_181 rfl
theorem dX5_takeFrom_24 : decode cX5_takeFrom 24 = .ok (.aload_n 0, 1) := dc0 (j := 24) sX5_takeFrom_0 rfl op_42
theorem dX5_takeFrom_25 : decode cX5_takeFrom 25 = .ok (.aload_n 1, 1) := dc0 (j := 25) sX5_takeFrom_0 rfl op_43
theorem dX5_takeFrom_26 : decode cX5_takeFrom 26 = .ok (.getfield 9, 3) := dcB (j := 26) (f := Instr.getfield) sX5_takeFrom_0 rfl op_180 rfl
theorem dX5_takeFrom_29 : decode cX5_takeFrom 29 = .ok (.putfield 9, 3) := dcB (j := 29) (f := Instr.putfield) sX5_takeFrom_0 rfl op_181 rfl
theorem dX5_takeFrom_32 : decode cX5_takeFrom 32 = .ok (.aload_n 0, 1) := dc0 (j := 32) sX5_takeFrom_0 rfl op_42
theorem dX5_takeFrom_33 : decode cX5_takeFrom 33 = .ok (.aload_n 1, 1) := dc0 (j := 33) sX5_takeFrom_0 rfl op_43
theorem sX5_takeFrom_34 : sgm cX5_takeFrom 34 [180, 0, 55, 181, 0, 55, 3, 61, 28, 42, 180, 0, 46, 162, 0, 117, 42, 180, 0, 15, 28, 43, 180, 0, 15, 28, 46, 79, 42, 180, 0, 19, 28, 43] := by decide +kernel
theorem dX5_takeFrom_34 : decode cX5_takeFrom 34 = .ok (.getfield 55, 3) := dcB (j := 0) (f := Instr.getfield) sX5_takeFrom_34 rfl op_180 rfl
theorem dX5_takeFrom_37 : decode cX5_takeFrom 37 = .ok (.putfield 55, 3) := dcB (j := 3) (f := Instr.putfield) sX5_takeFrom_34 rfl op_181 rfl
theorem dX5_takeFrom_40 : decode cX5_takeFrom 40 = .ok (.iconst 0, 1) := dc0 (j := 6) sX5_takeFrom_34 rfl op_3
theorem dX5_takeFrom_41 : decode cX5_takeFrom 41 = .ok (.istore_n 2, 1) := dc0 (j := 7) sX5_takeFrom_34 rfl op_61
theorem dX5_takeFrom_42 : decode cX5_takeFrom 42 = .ok (.iload_n 2, 1) := dc0 (j := 8) sX5_takeFrom_34 rfl op_28
theorem dX5_takeFrom_43 : decode cX5_takeFrom 43 = .ok (.aload_n 0, 1) := dc0 (j := 9) sX5_takeFrom_34 rfl op_42
theorem dX5_takeFrom_44 : decode cX5_takeFrom 44 = .ok (.getfield 46, 3) := dcB (j := 10) (f := Instr.getfield) sX5_takeFrom_34 rfl op_180 rfl
theorem dX5_takeFrom_47 : decode cX5_takeFrom 47 = .ok (.if_icmp .ge 117, 3) := dcTp (j := 13) (v := 117) (f := Instr.if_icmp .ge) sX5_takeFrom_34 rfl op_162 rfl rfl
theorem dX5_takeFrom_50 : decode cX5_takeFrom 50 = .ok (.aload_n 0, 1) := dc0 (j := 16) sX5_takeFrom_34 rfl op_42
theorem dX5_takeFrom_51 : decode cX5_takeFrom 51 = .ok (.getfield 15, 3) := dcB (j := 17) (f := Instr.getfield) sX5_takeFrom_34 rfl op_180 rfl
theorem dX5_takeFrom_54 : decode cX5_takeFrom 54 = .ok (.iload_n 2, 1) := dc0 (j := 20) sX5_takeFrom_34 rfl op_28
theorem dX5_takeFrom_55 : decode cX5_takeFrom 55 = .ok (.aload_n 1, 1) := dc0 (j := 21) sX5_takeFrom_34 rfl op_43
theorem dX5_takeFrom_56 : decode cX5_takeFrom 56 = .ok (.getfield 15, 3) := dcB (j := 22) (f := Instr.getfield) sX5_takeFrom_34 rfl op_180 rfl
theorem dX5_takeFrom_59 : decode cX5_takeFrom 59 = .ok (.iload_n 2, 1) := dc0 (j := 25) sX5_takeFrom_34 rfl op_28
theorem dX5_takeFrom_60 : decode cX5_takeFrom 60 = .ok (.iaload, 1) := dc0 (j := 26) sX5_takeFrom_34 rfl op_46
theorem dX5_takeFrom_61 : decode cX5_takeFrom 61 = .ok (.iastore, 1) := dc0 (j := 27) sX5_takeFrom_34 rfl op_79
theorem dX5_takeFrom_62 : decode cX5_takeFrom 62 = .ok (.aload_n 0, 1) := dc0 (j := 28) sX5_takeFrom_34 rfl op_42
theorem dX5_takeFrom_63 : decode cX5_takeFrom 63 = .ok (.getfield 19, 3) := dcB (j := 29) (f := Instr.getfield) sX5_takeFrom_34 rfl op_180 rfl
theorem dX5_takeFrom_66 : decode cX5_takeFrom 66 = .ok (.iload_n 2, 1) := dc0 (j := 32) sX5_takeFrom_34 rfl op_28
theorem dX5_takeFrom_67 : decode cX5_takeFrom 67 = .ok (.aload_n 1, 1) := dc0 (j := 33) sX5_takeFrom_34 rfl op_43
theorem sX5_takeFrom_68 : sgm cX5_takeFrom 68 [180, 0, 19, 28, 46, 79, 42, 180, 0, 22, 28, 43, 180, 0, 22, 28, 46, 79, 42, 180, 0, 25, 28, 43, 180, 0, 25, 28, 46, 79, 42, 180, 0, 28, 28, 43] := by decide +kernel
theorem dX5_takeFrom_68 : decode cX5_takeFrom 68 = .ok (.getfield 19, 3) := dcB (j := 0) (f := Instr.getfield) sX5_takeFrom_68 rfl op_180 rfl
theorem dX5_takeFrom_71 : decode cX5_takeFrom 71 = .ok (.iload_n 2, 1) := dc0 (j := 3) sX5_takeFrom_68 rfl op_28
theorem dX5_takeFrom_72 : decode cX5_takeFrom 72 = .ok (.iaload, 1) := dc0 (j := 4) sX5_takeFrom_68 rfl op_46
theorem dX5_takeFrom_73 : decode cX5_takeFrom 73 = .ok (.iastore, 1) := dc0 (j := 5) sX5_takeFrom_68 rfl op_79
theorem dX5_takeFrom_74 : decode cX5_takeFrom 74 = .ok (.aload_n 0, 1) := dc0 (j := 6) sX5_takeFrom_68 rfl op_42
theorem dX5_takeFrom_75 : decode cX5_takeFrom 75 = .ok (.getfield 22, 3) := dcB (j := 7) (f := Instr.getfield) sX5_takeFrom_68 rfl op_180 rfl
theorem dX5_takeFrom_78 : decode cX5_takeFrom 78 = .ok (.iload_n 2, 1) := dc0 (j := 10) sX5_takeFrom_68 rfl op_28
theorem dX5_takeFrom_79 : decode cX5_takeFrom 79 = .ok (.aload_n 1, 1) := dc0 (j := 11) sX5_takeFrom_68 rfl op_43
theorem dX5_takeFrom_80 : decode cX5_takeFrom 80 = .ok (.getfield 22, 3) := dcB (j := 12) (f := Instr.getfield) sX5_takeFrom_68 rfl op_180 rfl
theorem dX5_takeFrom_83 : decode cX5_takeFrom 83 = .ok (.iload_n 2, 1) := dc0 (j := 15) sX5_takeFrom_68 rfl op_28
theorem dX5_takeFrom_84 : decode cX5_takeFrom 84 = .ok (.iaload, 1) := dc0 (j := 16) sX5_takeFrom_68 rfl op_46
theorem dX5_takeFrom_85 : decode cX5_takeFrom 85 = .ok (.iastore, 1) := dc0 (j := 17) sX5_takeFrom_68 rfl op_79
theorem dX5_takeFrom_86 : decode cX5_takeFrom 86 = .ok (.aload_n 0, 1) := dc0 (j := 18) sX5_takeFrom_68 rfl op_42
theorem dX5_takeFrom_87 : decode cX5_takeFrom 87 = .ok (.getfield 25, 3) := dcB (j := 19) (f := Instr.getfield) sX5_takeFrom_68 rfl op_180 rfl
theorem dX5_takeFrom_90 : decode cX5_takeFrom 90 = .ok (.iload_n 2, 1) := dc0 (j := 22) sX5_takeFrom_68 rfl op_28
theorem dX5_takeFrom_91 : decode cX5_takeFrom 91 = .ok (.aload_n 1, 1) := dc0 (j := 23) sX5_takeFrom_68 rfl op_43
theorem dX5_takeFrom_92 : decode cX5_takeFrom 92 = .ok (.getfield 25, 3) := dcB (j := 24) (f := Instr.getfield) sX5_takeFrom_68 rfl op_180 rfl
theorem dX5_takeFrom_95 : decode cX5_takeFrom 95 = .ok (.iload_n 2, 1) := dc0 (j := 27) sX5_takeFrom_68 rfl op_28
theorem dX5_takeFrom_96 : decode cX5_takeFrom 96 = .ok (.iaload, 1) := dc0 (j := 28) sX5_takeFrom_68 rfl op_46
theorem dX5_takeFrom_97 : decode cX5_takeFrom 97 = .ok (.iastore, 1) := dc0 (j := 29) sX5_takeFrom_68 rfl op_79
theorem dX5_takeFrom_98 : decode cX5_takeFrom 98 = .ok (.aload_n 0, 1) := dc0 (j := 30) sX5_takeFrom_68 rfl op_42
theorem dX5_takeFrom_99 : decode cX5_takeFrom 99 = .ok (.getfield 28, 3) := dcB (j := 31) (f := Instr.getfield) sX5_takeFrom_68 rfl op_180 rfl
theorem dX5_takeFrom_102 : decode cX5_takeFrom 102 = .ok (.iload_n 2, 1) := dc0 (j := 34) sX5_takeFrom_68 rfl op_28
theorem dX5_takeFrom_103 : decode cX5_takeFrom 103 = .ok (.aload_n 1, 1) := dc0 (j := 35) sX5_takeFrom_68 rfl op_43
theorem sX5_takeFrom_104 : sgm cX5_takeFrom 104 [180, 0, 28, 28, 46, 79, 42, 180, 0, 31, 28, 43, 180, 0, 31, 28, 46, 79, 42, 180, 0, 34, 28, 43, 180, 0, 34, 28, 46, 79, 42, 180, 0, 37, 28, 43] := by decide +kernel
theorem dX5_takeFrom_104 : decode cX5_takeFrom 104 = .ok (.getfield 28, 3) := dcB (j := 0) (f := Instr.getfield) sX5_takeFrom_104 rfl op_180 rfl
theorem dX5_takeFrom_107 : decode cX5_takeFrom 107 = .ok (.iload_n 2, 1) := dc0 (j := 3) sX5_takeFrom_104 rfl op_28
theorem dX5_takeFrom_108 : decode cX5_takeFrom 108 = .ok (.iaload, 1) := dc0 (j := 4) sX5_takeFrom_104 rfl op_46
theorem dX5_takeFrom_109 : decode cX5_takeFrom 109 = .ok (.iastore, 1) := dc0 (j := 5) sX5_takeFrom_104 rfl op_79
theorem dX5_takeFrom_110 : decode cX5_takeFrom 110 = .ok (.aload_n 0, 1) := dc0 (j := 6) sX5_takeFrom_104 rfl op_42
theorem dX5_takeFrom_111 : decode cX5_takeFrom 111 = .ok (.getfield 31, 3) := dcB (j := 7) (f := Instr.getfield) sX5_takeFrom_104 rfl op_180 rfl
theorem dX5_takeFrom_114 : decode cX5_takeFrom 114 = .ok (.iload_n 2, 1) := dc0 (j := 10) sX5_takeFrom_104 rfl op_28
theorem dX5_takeFrom_115 : decode cX5_takeFrom 115 = .ok (.aload_n 1, 1) := dc0 (j := 11) sX5_takeFrom_104 rfl op_43
theorem dX5_takeFrom_116 : decode cX5_takeFrom 116 = .ok (.getfield 31, 3) := dcB (j := 12) (f := Instr.getfield) sX5_takeFrom_104 rfl op_180 rfl
theorem dX5_takeFrom_119 : decode cX5_takeFrom 119 = .ok (.iload_n 2, 1) := dc0 (j := 15) sX5_takeFrom_104 rfl op_28
theorem dX5_takeFrom_120 : decode cX5_takeFrom 120 = .ok (.iaload, 1) := dc0 (j := 16) sX5_takeFrom_104 rfl op_46
theorem dX5_takeFrom_121 : decode cX5_takeFrom 121 = .ok (.iastore, 1) := dc0 (j := 17) sX5_takeFrom_104 rfl op_79
theorem dX5_takeFrom_122 : decode cX5_takeFrom 122 = .ok (.aload_n 0, 1) := dc0 (j := 18) sX5_takeFrom_104 rfl op_42
theorem dX5_takeFrom_123 : decode cX5_takeFrom 123 = .ok (.getfield 34, 3) := dcB (j := 19) (f := Instr.getfield) sX5_takeFrom_104 rfl op_180 rfl
theorem dX5_takeFrom_126 : decode cX5_takeFrom 126 = .ok (.iload_n 2, 1) := dc0 (j := 22) sX5_takeFrom_104 rfl op_28
theorem dX5_takeFrom_127 : decode cX5_takeFrom 127 = .ok (.aload_n 1, 1) := dc0 (j := 23) sX5_takeFrom_104 rfl op_43
theorem dX5_takeFrom_128 : decode cX5_takeFrom 128 = .ok (.getfield 34, 3) := dcB (j := 24) (f := Instr.getfield) sX5_takeFrom_104 rfl op_180 rfl
theorem dX5_takeFrom_131 : decode cX5_takeFrom 131 = .ok (.iload_n 2, 1) := dc0 (j := 27) sX5_takeFrom_104 rfl op_28
theorem dX5_takeFrom_132 : decode cX5_takeFrom 132 = .ok (.iaload, 1) := dc0 (j := 28) sX5_takeFrom_104 rfl op_46
theorem dX5_takeFrom_133 : decode cX5_takeFrom 133 = .ok (.iastore, 1) := dc0 (j := 29) sX5_takeFrom_104 rfl op_79
theorem dX5_takeFrom_134 : decode cX5_takeFrom 134 = .ok (.aload_n 0, 1) := dc0 (j := 30) sX5_takeFrom_104 rfl op_42
theorem dX5_takeFrom_135 : decode cX5_takeFrom 135 = .ok (.getfield 37, 3) := dcB (j := 31) (f := Instr.getfield) sX5_takeFrom_104 rfl op_180 rfl
theorem dX5_takeFrom_138 : decode cX5_takeFrom 138 = .ok (.iload_n 2, 1) := dc0 (j := 34) sX5_takeFrom_104 rfl op_28
theorem dX5_takeFrom_139 : decode cX5_takeFrom 139 = .ok (.aload_n 1, 1) := dc0 (j := 35) sX5_takeFrom_104 rfl op_43
theorem sX5_takeFrom_140 : sgm cX5_takeFrom 140 [180, 0, 37, 28, 46, 79, 42, 180, 0, 40, 28, 43, 180, 0, 40, 28, 46, 79, 132, 2, 1, 167, 255, 137, 177] := by decide +kernel
theorem dX5_takeFrom_140 : decode cX5_takeFrom 140 = .ok (.getfield 37, 3) := dcB (j := 0) (f := Instr.getfield) sX5_takeFrom_140 rfl op_180 rfl
theorem dX5_takeFrom_143 : decode cX5_takeFrom 143 = .ok (.iload_n 2, 1) := dc0 (j := 3) sX5_takeFrom_140 rfl op_28
theorem dX5_takeFrom_144 : decode cX5_takeFrom 144 = .ok (.iaload, 1) := dc0 (j := 4) sX5_takeFrom_140 rfl op_46
theorem dX5_takeFrom_145 : decode cX5_takeFrom 145 = .ok (.iastore, 1) := dc0 (j := 5) sX5_takeFrom_140 rfl op_79
theorem dX5_takeFrom_146 : decode cX5_takeFrom 146 = .ok (.aload_n 0, 1) := dc0 (j := 6) sX5_takeFrom_140 rfl op_42
theorem dX5_takeFrom_147 : decode cX5_takeFrom 147 = .ok (.getfield 40, 3) := dcB (j := 7) (f := Instr.getfield) sX5_takeFrom_140 rfl op_180 rfl
theorem dX5_takeFrom_150 : decode cX5_takeFrom 150 = .ok (.iload_n 2, 1) := dc0 (j := 10) sX5_takeFrom_140 rfl op_28
theorem dX5_takeFrom_151 : decode cX5_takeFrom 151 = .ok (.aload_n 1, 1) := dc0 (j := 11) sX5_takeFrom_140 rfl op_43
theorem dX5_takeFrom_152 : decode cX5_takeFrom 152 = .ok (.getfield 40, 3) := dcB (j := 12) (f := Instr.getfield) sX5_takeFrom_140 rfl op_180 rfl
theorem dX5_takeFrom_155 : decode cX5_takeFrom 155 = .ok (.iload_n 2, 1) := dc0 (j := 15) sX5_takeFrom_140 rfl op_28
theorem dX5_takeFrom_156 : decode cX5_takeFrom 156 = .ok (.iaload, 1) := dc0 (j := 16) sX5_takeFrom_140 rfl op_46
theorem dX5_takeFrom_157 : decode cX5_takeFrom 157 = .ok (.iastore, 1) := dc0 (j := 17) sX5_takeFrom_140 rfl op_79
theorem dX5_takeFrom_158 : decode cX5_takeFrom 158 = .ok (.iinc 2 1, 3) := dcIp (j := 18) sX5_takeFrom_140 rfl op_132 rfl
theorem dX5_takeFrom_161 : decode cX5_takeFrom 161 = .ok (.goto (-119), 3) := dcTn (j := 21) (v := 119) (f := Instr.goto) sX5_takeFrom_140 rfl op_167 rfl rfl rfl
theorem dX5_takeFrom_164 : decode cX5_takeFrom 164 = .ok (.return_, 1) := dc0 (j := 24) sX5_takeFrom_140 rfl op_177
theorem sX5_clear_0 : sgm cX5_clear 0 [42, 3, 181, 0, 46, 42, 3, 181, 0, 49, 42, 3, 181, 0, 52, 42, 16, 20, 181, 0, 9, 42, 3, 181, 0, 55, 177] := by decide +kernel
theorem dX5_clear_0 : decode cX5_clear 0 = .ok (.aload_n 0, 1) := dc0 (j := 0) sX5_clear_0 rfl op_42
theorem dX5_clear_1 : decode cX5_clear 1 = .ok (.iconst 0, 1) := dc0 (j := 1) sX5_clear_0 rfl op_3
theorem dX5_clear_2 : decode cX5_clear 2 = .ok (.putfield 46, 3) := dcB (j := 2) (f := Instr.putfield) sX5_clear_0 rfl op_181 rfl
theorem dX5_clear_5 : decode cX5_clear 5 = .ok (.aload_n 0, 1) := dc0 (j := 5) sX5_clear_0 rfl op_42
theorem dX5_clear_6 : decode cX5_clear 6 = .ok (.iconst 0, 1) := dc0 (j := 6) sX5_clear_0 rfl op_3
theorem dX5_clear_7 : decode cX5_clear 7 = .ok (.putfield 49, 3) := dcB (j := 7) (f := Instr.putfield) sX5_clear_0 rfl op_181 rfl
theorem dX5_clear_10 : decode cX5_clear 10 = .ok (.aload_n 0, 1) := dc0 (j := 10) sX5_clear_0 rfl op_42
theorem dX5_clear_11 : decode cX5_clear 11 = .ok (.iconst 0, 1) := dc0 (j := 11) sX5_clear_0 rfl op_3
theorem dX5_clear_12 : decode cX5_clear 12 = .ok (.putfield 52, 3) := dcB (j := 12) (f := Instr.putfield) sX5_clear_0 rfl op_181 rfl
theorem dX5_clear_15 : decode cX5_clear 15 = .ok (.aload_n 0, 1) := dc0 (j := 15) sX5_clear_0 rfl op_42
theorem dX5_clear_16 : decode cX5_clear 16 = .ok (.bipush 20, 2) := dcSp (j := 16) (a := 20) (f := Instr.bipush) sX5_clear_0 rfl op_16 rfl
theorem dX5_clear_18 : decode cX5_clear 18 = .ok (.putfield 9, 3) := dcB (j := 18) (f := Instr.putfield) sX5_clear_0 rfl op_181 rfl
theorem dX5_clear_21 : decode cX5_clear 21 = .ok (.aload_n 0, 1) := dc0 (j := 21) sX5_clear_0 rfl op_42
theorem dX5_clear_22 : decode cX5_clear 22 = .ok (.iconst 0, 1) := dc0 (j := 22) sX5_clear_0 rfl op_3
theorem dX5_clear_23 : decode cX5_clear 23 = .ok (.putfield 55, 3) := dcB (j := 23) (f := Instr.putfield) sX5_clear_0 rfl op_181 rfl
theorem dX5_clear_26 : decode cX5_clear 26 = .ok (.return_, 1) := dc0 (j := 26) sX5_clear_0 rfl op_177
theorem sX5_layUntoldRopes_0 : sgm cX5_layUntoldRopes 0 [3, 60, 27, 42, 180, 0, 46, 162, 0, 42, 42, 180, 0, 40, 27, 46, 2, 160, 0, 26, 42, 180, 0, 40, 27, 27, 4, 96, 42, 180, 0, 46, 162, 0, 9, 27] := by decide +kernel
theorem dX5_layUntoldRopes_0 : decode cX5_layUntoldRopes 0 = .ok (.iconst 0, 1) := dc0 (j := 0) sX5_layUntoldRopes_0 rfl op_3
theorem dX5_layUntoldRopes_1 : decode cX5_layUntoldRopes 1 = .ok (.istore_n 1, 1) := dc0 (j := 1) sX5_layUntoldRopes_0 rfl op_60
theorem dX5_layUntoldRopes_2 : decode cX5_layUntoldRopes 2 = .ok (.iload_n 1, 1) := dc0 (j := 2) sX5_layUntoldRopes_0 rfl op_27
theorem dX5_layUntoldRopes_3 : decode cX5_layUntoldRopes 3 = .ok (.aload_n 0, 1) := dc0 (j := 3) sX5_layUntoldRopes_0 rfl op_42
theorem dX5_layUntoldRopes_4 : decode cX5_layUntoldRopes 4 = .ok (.getfield 46, 3) := dcB (j := 4) (f := Instr.getfield) sX5_layUntoldRopes_0 rfl op_180 rfl
theorem dX5_layUntoldRopes_7 : decode cX5_layUntoldRopes 7 = .ok (.if_icmp .ge 42, 3) := dcTp (j := 7) (v := 42) (f := Instr.if_icmp .ge) sX5_layUntoldRopes_0 rfl op_162 rfl rfl
theorem dX5_layUntoldRopes_10 : decode cX5_layUntoldRopes 10 = .ok (.aload_n 0, 1) := dc0 (j := 10) sX5_layUntoldRopes_0 rfl op_42
theorem dX5_layUntoldRopes_11 : decode cX5_layUntoldRopes 11 = .ok (.getfield 40, 3) := dcB (j := 11) (f := Instr.getfield) sX5_layUntoldRopes_0 rfl op_180 rfl
theorem dX5_layUntoldRopes_14 : decode cX5_layUntoldRopes 14 = .ok (.iload_n 1, 1) := dc0 (j := 14) sX5_layUntoldRopes_0 rfl op_27
theorem dX5_layUntoldRopes_15 : decode cX5_layUntoldRopes 15 = .ok (.iaload, 1) := dc0 (j := 15) sX5_layUntoldRopes_0 rfl op_46
theorem dX5_layUntoldRopes_16 : decode cX5_layUntoldRopes 16 = .ok (.iconst (-1), 1) := dc0 (j := 16) sX5_layUntoldRopes_0 rfl op_2
theorem dX5_layUntoldRopes_17 : decode cX5_layUntoldRopes 17 = .ok (.if_icmp .ne 26, 3) := dcTp (j := 17) (v := 26) (f := Instr.if_icmp .ne) sX5_layUntoldRopes_0 rfl op_160 rfl rfl
theorem dX5_layUntoldRopes_20 : decode cX5_layUntoldRopes 20 = .ok (.aload_n 0, 1) := dc0 (j := 20) sX5_layUntoldRopes_0 rfl op_42
theorem dX5_layUntoldRopes_21 : decode cX5_layUntoldRopes 21 = .ok (.getfield 40, 3) := dcB (j := 21) (f := Instr.getfield) sX5_layUntoldRopes_0 rfl op_180 rfl
theorem dX5_layUntoldRopes_24 : decode cX5_layUntoldRopes 24 = .ok (.iload_n 1, 1) := dc0 (j := 24) sX5_layUntoldRopes_0 rfl op_27
theorem dX5_layUntoldRopes_25 : decode cX5_layUntoldRopes 25 = .ok (.iload_n 1, 1) := dc0 (j := 25) sX5_layUntoldRopes_0 rfl op_27
theorem dX5_layUntoldRopes_26 : decode cX5_layUntoldRopes 26 = .ok (.iconst 1, 1) := dc0 (j := 26) sX5_layUntoldRopes_0 rfl op_4
theorem dX5_layUntoldRopes_27 : decode cX5_layUntoldRopes 27 = .ok (.iadd, 1) := dc0 (j := 27) sX5_layUntoldRopes_0 rfl op_96
theorem dX5_layUntoldRopes_28 : decode cX5_layUntoldRopes 28 = .ok (.aload_n 0, 1) := dc0 (j := 28) sX5_layUntoldRopes_0 rfl op_42
theorem dX5_layUntoldRopes_29 : decode cX5_layUntoldRopes 29 = .ok (.getfield 46, 3) := dcB (j := 29) (f := Instr.getfield) sX5_layUntoldRopes_0 rfl op_180 rfl
theorem dX5_layUntoldRopes_32 : decode cX5_layUntoldRopes 32 = .ok (.if_icmp .ge 9, 3) := dcTp (j := 32) (v := 9) (f := Instr.if_icmp .ge) sX5_layUntoldRopes_0 rfl op_162 rfl rfl
theorem dX5_layUntoldRopes_35 : decode cX5_layUntoldRopes 35 = .ok (.iload_n 1, 1) := dc0 (j := 35) sX5_layUntoldRopes_0 rfl op_27
theorem sX5_layUntoldRopes_36 : sgm cX5_layUntoldRopes 36 [4, 96, 167, 0, 4, 3, 79, 132, 1, 1, 167, 255, 212, 177] := by decide +kernel
theorem dX5_layUntoldRopes_36 : decode cX5_layUntoldRopes 36 = .ok (.iconst 1, 1) := dc0 (j := 0) sX5_layUntoldRopes_36 rfl op_4
theorem dX5_layUntoldRopes_37 : decode cX5_layUntoldRopes 37 = .ok (.iadd, 1) := dc0 (j := 1) sX5_layUntoldRopes_36 rfl op_96
theorem dX5_layUntoldRopes_38 : decode cX5_layUntoldRopes 38 = .ok (.goto 4, 3) := dcTp (j := 2) (v := 4) (f := Instr.goto) sX5_layUntoldRopes_36 rfl op_167 rfl rfl
theorem dX5_layUntoldRopes_41 : decode cX5_layUntoldRopes 41 = .ok (.iconst 0, 1) := dc0 (j := 5) sX5_layUntoldRopes_36 rfl op_3
theorem dX5_layUntoldRopes_42 : decode cX5_layUntoldRopes 42 = .ok (.iastore, 1) := dc0 (j := 6) sX5_layUntoldRopes_36 rfl op_79
theorem dX5_layUntoldRopes_43 : decode cX5_layUntoldRopes 43 = .ok (.iinc 1 1, 3) := dcIp (j := 7) sX5_layUntoldRopes_36 rfl op_132 rfl
theorem dX5_layUntoldRopes_46 : decode cX5_layUntoldRopes 46 = .ok (.goto (-44), 3) := dcTn (j := 10) (v := 44) (f := Instr.goto) sX5_layUntoldRopes_36 rfl op_167 rfl rfl rfl
theorem dX5_layUntoldRopes_49 : decode cX5_layUntoldRopes 49 = .ok (.return_, 1) := dc0 (j := 13) sX5_layUntoldRopes_36 rfl op_177
theorem sX5_isSmith_0 : sgm cX5_isSmith 0 [27, 155, 0, 15, 27, 42, 180, 0, 46, 162, 0, 7, 4, 167, 0, 4, 3, 172] := by decide +kernel
theorem dX5_isSmith_0 : decode cX5_isSmith 0 = .ok (.iload_n 1, 1) := dc0 (j := 0) sX5_isSmith_0 rfl op_27
theorem dX5_isSmith_1 : decode cX5_isSmith 1 = .ok (.ifCond .lt 15, 3) := dcTp (j := 1) (v := 15) (f := Instr.ifCond .lt) sX5_isSmith_0 rfl op_155 rfl rfl
theorem dX5_isSmith_4 : decode cX5_isSmith 4 = .ok (.iload_n 1, 1) := dc0 (j := 4) sX5_isSmith_0 rfl op_27
theorem dX5_isSmith_5 : decode cX5_isSmith 5 = .ok (.aload_n 0, 1) := dc0 (j := 5) sX5_isSmith_0 rfl op_42
theorem dX5_isSmith_6 : decode cX5_isSmith 6 = .ok (.getfield 46, 3) := dcB (j := 6) (f := Instr.getfield) sX5_isSmith_0 rfl op_180 rfl
theorem dX5_isSmith_9 : decode cX5_isSmith 9 = .ok (.if_icmp .ge 7, 3) := dcTp (j := 9) (v := 7) (f := Instr.if_icmp .ge) sX5_isSmith_0 rfl op_162 rfl rfl
theorem dX5_isSmith_12 : decode cX5_isSmith 12 = .ok (.iconst 1, 1) := dc0 (j := 12) sX5_isSmith_0 rfl op_4
theorem dX5_isSmith_13 : decode cX5_isSmith 13 = .ok (.goto 4, 3) := dcTp (j := 13) (v := 4) (f := Instr.goto) sX5_isSmith_0 rfl op_167 rfl rfl
theorem dX5_isSmith_16 : decode cX5_isSmith 16 = .ok (.iconst 0, 1) := dc0 (j := 16) sX5_isSmith_0 rfl op_3
theorem dX5_isSmith_17 : decode cX5_isSmith 17 = .ok (.ireturn, 1) := dc0 (j := 17) sX5_isSmith_0 rfl op_172
theorem sX5_everyone_0 : sgm cX5_everyone 0 [4, 42, 180, 0, 46, 120, 4, 100, 172] := by decide +kernel
theorem dX5_everyone_0 : decode cX5_everyone 0 = .ok (.iconst 1, 1) := dc0 (j := 0) sX5_everyone_0 rfl op_4
theorem dX5_everyone_1 : decode cX5_everyone 1 = .ok (.aload_n 0, 1) := dc0 (j := 1) sX5_everyone_0 rfl op_42
theorem dX5_everyone_2 : decode cX5_everyone 2 = .ok (.getfield 46, 3) := dcB (j := 2) (f := Instr.getfield) sX5_everyone_0 rfl op_180 rfl
theorem dX5_everyone_5 : decode cX5_everyone 5 = .ok (.ishl, 1) := dc0 (j := 5) sX5_everyone_0 rfl op_120
theorem dX5_everyone_6 : decode cX5_everyone 6 = .ok (.iconst 1, 1) := dc0 (j := 6) sX5_everyone_0 rfl op_4
theorem dX5_everyone_7 : decode cX5_everyone 7 = .ok (.isub, 1) := dc0 (j := 7) sX5_everyone_0 rfl op_100
theorem dX5_everyone_8 : decode cX5_everyone 8 = .ok (.ireturn, 1) := dc0 (j := 8) sX5_everyone_0 rfl op_172
theorem sX5_isSet_0 : sgm cX5_isSet 0 [27, 42, 182, 0, 58, 2, 130, 126, 154, 0, 7, 4, 167, 0, 4, 3, 172] := by decide +kernel
theorem dX5_isSet_0 : decode cX5_isSet 0 = .ok (.iload_n 1, 1) := dc0 (j := 0) sX5_isSet_0 rfl op_27
theorem dX5_isSet_1 : decode cX5_isSet 1 = .ok (.aload_n 0, 1) := dc0 (j := 1) sX5_isSet_0 rfl op_42
theorem dX5_isSet_2 : decode cX5_isSet 2 = .ok (.invokevirtual 58, 3) := dcB (j := 2) (f := Instr.invokevirtual) sX5_isSet_0 rfl op_182 rfl
theorem dX5_isSet_5 : decode cX5_isSet 5 = .ok (.iconst (-1), 1) := dc0 (j := 5) sX5_isSet_0 rfl op_2
theorem dX5_isSet_6 : decode cX5_isSet 6 = .ok (.ixor, 1) := dc0 (j := 6) sX5_isSet_0 rfl op_130
theorem dX5_isSet_7 : decode cX5_isSet 7 = .ok (.iand, 1) := dc0 (j := 7) sX5_isSet_0 rfl op_126
theorem dX5_isSet_8 : decode cX5_isSet 8 = .ok (.ifCond .ne 7, 3) := dcTp (j := 8) (v := 7) (f := Instr.ifCond .ne) sX5_isSet_0 rfl op_154 rfl rfl
theorem dX5_isSet_11 : decode cX5_isSet 11 = .ok (.iconst 1, 1) := dc0 (j := 11) sX5_isSet_0 rfl op_4
theorem dX5_isSet_12 : decode cX5_isSet 12 = .ok (.goto 4, 3) := dcTp (j := 12) (v := 4) (f := Instr.goto) sX5_isSet_0 rfl op_167 rfl rfl
theorem dX5_isSet_15 : decode cX5_isSet 15 = .ok (.iconst 0, 1) := dc0 (j := 15) sX5_isSet_0 rfl op_3
theorem dX5_isSet_16 : decode cX5_isSet 16 = .ok (.ireturn, 1) := dc0 (j := 16) sX5_isSet_0 rfl op_172
theorem sX5_beginPiece_0 : sgm cX5_beginPiece 0 [42, 180, 0, 31, 27, 28, 79, 42, 180, 0, 34, 27, 3, 79, 42, 180, 0, 37, 27, 3, 79, 177] := by decide +kernel
theorem dX5_beginPiece_0 : decode cX5_beginPiece 0 = .ok (.aload_n 0, 1) := dc0 (j := 0) sX5_beginPiece_0 rfl op_42
theorem dX5_beginPiece_1 : decode cX5_beginPiece 1 = .ok (.getfield 31, 3) := dcB (j := 1) (f := Instr.getfield) sX5_beginPiece_0 rfl op_180 rfl
theorem dX5_beginPiece_4 : decode cX5_beginPiece 4 = .ok (.iload_n 1, 1) := dc0 (j := 4) sX5_beginPiece_0 rfl op_27
theorem dX5_beginPiece_5 : decode cX5_beginPiece 5 = .ok (.iload_n 2, 1) := dc0 (j := 5) sX5_beginPiece_0 rfl op_28
theorem dX5_beginPiece_6 : decode cX5_beginPiece 6 = .ok (.iastore, 1) := dc0 (j := 6) sX5_beginPiece_0 rfl op_79
theorem dX5_beginPiece_7 : decode cX5_beginPiece 7 = .ok (.aload_n 0, 1) := dc0 (j := 7) sX5_beginPiece_0 rfl op_42
theorem dX5_beginPiece_8 : decode cX5_beginPiece 8 = .ok (.getfield 34, 3) := dcB (j := 8) (f := Instr.getfield) sX5_beginPiece_0 rfl op_180 rfl
theorem dX5_beginPiece_11 : decode cX5_beginPiece 11 = .ok (.iload_n 1, 1) := dc0 (j := 11) sX5_beginPiece_0 rfl op_27
theorem dX5_beginPiece_12 : decode cX5_beginPiece 12 = .ok (.iconst 0, 1) := dc0 (j := 12) sX5_beginPiece_0 rfl op_3
theorem dX5_beginPiece_13 : decode cX5_beginPiece 13 = .ok (.iastore, 1) := dc0 (j := 13) sX5_beginPiece_0 rfl op_79
theorem dX5_beginPiece_14 : decode cX5_beginPiece 14 = .ok (.aload_n 0, 1) := dc0 (j := 14) sX5_beginPiece_0 rfl op_42
theorem dX5_beginPiece_15 : decode cX5_beginPiece 15 = .ok (.getfield 37, 3) := dcB (j := 15) (f := Instr.getfield) sX5_beginPiece_0 rfl op_180 rfl
theorem dX5_beginPiece_18 : decode cX5_beginPiece 18 = .ok (.iload_n 1, 1) := dc0 (j := 18) sX5_beginPiece_0 rfl op_27
theorem dX5_beginPiece_19 : decode cX5_beginPiece 19 = .ok (.iconst 0, 1) := dc0 (j := 19) sX5_beginPiece_0 rfl op_3
theorem dX5_beginPiece_20 : decode cX5_beginPiece 20 = .ok (.iastore, 1) := dc0 (j := 20) sX5_beginPiece_0 rfl op_79
theorem dX5_beginPiece_21 : decode cX5_beginPiece 21 = .ok (.return_, 1) := dc0 (j := 21) sX5_beginPiece_0 rfl op_177
theorem sX5_isDone_0 : sgm cX5_isDone 0 [42, 180, 0, 34, 27, 46, 42, 180, 0, 31, 27, 46, 161, 0, 7, 4, 167, 0, 4, 3, 172] := by decide +kernel
theorem dX5_isDone_0 : decode cX5_isDone 0 = .ok (.aload_n 0, 1) := dc0 (j := 0) sX5_isDone_0 rfl op_42
theorem dX5_isDone_1 : decode cX5_isDone 1 = .ok (.getfield 34, 3) := dcB (j := 1) (f := Instr.getfield) sX5_isDone_0 rfl op_180 rfl
theorem dX5_isDone_4 : decode cX5_isDone 4 = .ok (.iload_n 1, 1) := dc0 (j := 4) sX5_isDone_0 rfl op_27
theorem dX5_isDone_5 : decode cX5_isDone 5 = .ok (.iaload, 1) := dc0 (j := 5) sX5_isDone_0 rfl op_46
theorem dX5_isDone_6 : decode cX5_isDone 6 = .ok (.aload_n 0, 1) := dc0 (j := 6) sX5_isDone_0 rfl op_42
theorem dX5_isDone_7 : decode cX5_isDone 7 = .ok (.getfield 31, 3) := dcB (j := 7) (f := Instr.getfield) sX5_isDone_0 rfl op_180 rfl
theorem dX5_isDone_10 : decode cX5_isDone 10 = .ok (.iload_n 1, 1) := dc0 (j := 10) sX5_isDone_0 rfl op_27
theorem dX5_isDone_11 : decode cX5_isDone 11 = .ok (.iaload, 1) := dc0 (j := 11) sX5_isDone_0 rfl op_46
theorem dX5_isDone_12 : decode cX5_isDone 12 = .ok (.if_icmp .lt 7, 3) := dcTp (j := 12) (v := 7) (f := Instr.if_icmp .lt) sX5_isDone_0 rfl op_161 rfl rfl
theorem dX5_isDone_15 : decode cX5_isDone 15 = .ok (.iconst 1, 1) := dc0 (j := 15) sX5_isDone_0 rfl op_4
theorem dX5_isDone_16 : decode cX5_isDone 16 = .ok (.goto 4, 3) := dcTp (j := 16) (v := 4) (f := Instr.goto) sX5_isDone_0 rfl op_167 rfl rfl
theorem dX5_isDone_19 : decode cX5_isDone 19 = .ok (.iconst 0, 1) := dc0 (j := 19) sX5_isDone_0 rfl op_3
theorem dX5_isDone_20 : decode cX5_isDone 20 = .ok (.ireturn, 1) := dc0 (j := 20) sX5_isDone_0 rfl op_172
theorem sX5_isWorkableAt_0 : sgm cX5_isWorkableAt 0 [28, 42, 180, 0, 25, 27, 46, 161, 0, 17, 28, 42, 180, 0, 28, 27, 46, 163, 0, 7, 4, 167, 0, 4, 3, 172] := by decide +kernel
theorem dX5_isWorkableAt_0 : decode cX5_isWorkableAt 0 = .ok (.iload_n 2, 1) := dc0 (j := 0) sX5_isWorkableAt_0 rfl op_28
theorem dX5_isWorkableAt_1 : decode cX5_isWorkableAt 1 = .ok (.aload_n 0, 1) := dc0 (j := 1) sX5_isWorkableAt_0 rfl op_42
theorem dX5_isWorkableAt_2 : decode cX5_isWorkableAt 2 = .ok (.getfield 25, 3) := dcB (j := 2) (f := Instr.getfield) sX5_isWorkableAt_0 rfl op_180 rfl
theorem dX5_isWorkableAt_5 : decode cX5_isWorkableAt 5 = .ok (.iload_n 1, 1) := dc0 (j := 5) sX5_isWorkableAt_0 rfl op_27
theorem dX5_isWorkableAt_6 : decode cX5_isWorkableAt 6 = .ok (.iaload, 1) := dc0 (j := 6) sX5_isWorkableAt_0 rfl op_46
theorem dX5_isWorkableAt_7 : decode cX5_isWorkableAt 7 = .ok (.if_icmp .lt 17, 3) := dcTp (j := 7) (v := 17) (f := Instr.if_icmp .lt) sX5_isWorkableAt_0 rfl op_161 rfl rfl
theorem dX5_isWorkableAt_10 : decode cX5_isWorkableAt 10 = .ok (.iload_n 2, 1) := dc0 (j := 10) sX5_isWorkableAt_0 rfl op_28
theorem dX5_isWorkableAt_11 : decode cX5_isWorkableAt 11 = .ok (.aload_n 0, 1) := dc0 (j := 11) sX5_isWorkableAt_0 rfl op_42
theorem dX5_isWorkableAt_12 : decode cX5_isWorkableAt 12 = .ok (.getfield 28, 3) := dcB (j := 12) (f := Instr.getfield) sX5_isWorkableAt_0 rfl op_180 rfl
theorem dX5_isWorkableAt_15 : decode cX5_isWorkableAt 15 = .ok (.iload_n 1, 1) := dc0 (j := 15) sX5_isWorkableAt_0 rfl op_27
theorem dX5_isWorkableAt_16 : decode cX5_isWorkableAt 16 = .ok (.iaload, 1) := dc0 (j := 16) sX5_isWorkableAt_0 rfl op_46
theorem dX5_isWorkableAt_17 : decode cX5_isWorkableAt 17 = .ok (.if_icmp .gt 7, 3) := dcTp (j := 17) (v := 7) (f := Instr.if_icmp .gt) sX5_isWorkableAt_0 rfl op_163 rfl rfl
theorem dX5_isWorkableAt_20 : decode cX5_isWorkableAt 20 = .ok (.iconst 1, 1) := dc0 (j := 20) sX5_isWorkableAt_0 rfl op_4
theorem dX5_isWorkableAt_21 : decode cX5_isWorkableAt 21 = .ok (.goto 4, 3) := dcTp (j := 21) (v := 4) (f := Instr.goto) sX5_isWorkableAt_0 rfl op_167 rfl rfl
theorem dX5_isWorkableAt_24 : decode cX5_isWorkableAt 24 = .ok (.iconst 0, 1) := dc0 (j := 24) sX5_isWorkableAt_0 rfl op_3
theorem dX5_isWorkableAt_25 : decode cX5_isWorkableAt 25 = .ok (.ireturn, 1) := dc0 (j := 25) sX5_isWorkableAt_0 rfl op_172
theorem sX5_canStrike_0 : sgm cX5_canStrike 0 [42, 27, 182, 0, 62, 154, 0, 21, 42, 27, 42, 180, 0, 22, 27, 46, 182, 0, 66, 153, 0, 7, 4, 167, 0, 4, 3, 172] := by decide +kernel
theorem dX5_canStrike_0 : decode cX5_canStrike 0 = .ok (.aload_n 0, 1) := dc0 (j := 0) sX5_canStrike_0 rfl op_42
theorem dX5_canStrike_1 : decode cX5_canStrike 1 = .ok (.iload_n 1, 1) := dc0 (j := 1) sX5_canStrike_0 rfl op_27
theorem dX5_canStrike_2 : decode cX5_canStrike 2 = .ok (.invokevirtual 62, 3) := dcB (j := 2) (f := Instr.invokevirtual) sX5_canStrike_0 rfl op_182 rfl
theorem dX5_canStrike_5 : decode cX5_canStrike 5 = .ok (.ifCond .ne 21, 3) := dcTp (j := 5) (v := 21) (f := Instr.ifCond .ne) sX5_canStrike_0 rfl op_154 rfl rfl
theorem dX5_canStrike_8 : decode cX5_canStrike 8 = .ok (.aload_n 0, 1) := dc0 (j := 8) sX5_canStrike_0 rfl op_42
theorem dX5_canStrike_9 : decode cX5_canStrike 9 = .ok (.iload_n 1, 1) := dc0 (j := 9) sX5_canStrike_0 rfl op_27
theorem dX5_canStrike_10 : decode cX5_canStrike 10 = .ok (.aload_n 0, 1) := dc0 (j := 10) sX5_canStrike_0 rfl op_42
theorem dX5_canStrike_11 : decode cX5_canStrike 11 = .ok (.getfield 22, 3) := dcB (j := 11) (f := Instr.getfield) sX5_canStrike_0 rfl op_180 rfl
theorem dX5_canStrike_14 : decode cX5_canStrike 14 = .ok (.iload_n 1, 1) := dc0 (j := 14) sX5_canStrike_0 rfl op_27
theorem dX5_canStrike_15 : decode cX5_canStrike 15 = .ok (.iaload, 1) := dc0 (j := 15) sX5_canStrike_0 rfl op_46
theorem dX5_canStrike_16 : decode cX5_canStrike 16 = .ok (.invokevirtual 66, 3) := dcB (j := 16) (f := Instr.invokevirtual) sX5_canStrike_0 rfl op_182 rfl
theorem dX5_canStrike_19 : decode cX5_canStrike 19 = .ok (.ifCond .eq 7, 3) := dcTp (j := 19) (v := 7) (f := Instr.ifCond .eq) sX5_canStrike_0 rfl op_153 rfl rfl
theorem dX5_canStrike_22 : decode cX5_canStrike 22 = .ok (.iconst 1, 1) := dc0 (j := 22) sX5_canStrike_0 rfl op_4
theorem dX5_canStrike_23 : decode cX5_canStrike 23 = .ok (.goto 4, 3) := dcTp (j := 23) (v := 4) (f := Instr.goto) sX5_canStrike_0 rfl op_167 rfl rfl
theorem dX5_canStrike_26 : decode cX5_canStrike 26 = .ok (.iconst 0, 1) := dc0 (j := 26) sX5_canStrike_0 rfl op_3
theorem dX5_canStrike_27 : decode cX5_canStrike 27 = .ok (.ireturn, 1) := dc0 (j := 27) sX5_canStrike_0 rfl op_172
theorem sX5_blowersOf_0 : sgm cX5_blowersOf 0 [3, 61, 3, 62, 29, 42, 180, 0, 46, 162, 0, 29, 28, 42, 180, 0, 40, 29, 46, 27, 160, 0, 9, 4, 29, 120, 167, 0, 4, 3, 128, 61, 132, 3, 1] := by decide +kernel
theorem dX5_blowersOf_0 : decode cX5_blowersOf 0 = .ok (.iconst 0, 1) := dc0 (j := 0) sX5_blowersOf_0 rfl op_3
theorem dX5_blowersOf_1 : decode cX5_blowersOf 1 = .ok (.istore_n 2, 1) := dc0 (j := 1) sX5_blowersOf_0 rfl op_61
theorem dX5_blowersOf_2 : decode cX5_blowersOf 2 = .ok (.iconst 0, 1) := dc0 (j := 2) sX5_blowersOf_0 rfl op_3
theorem dX5_blowersOf_3 : decode cX5_blowersOf 3 = .ok (.istore_n 3, 1) := dc0 (j := 3) sX5_blowersOf_0 rfl op_62
theorem dX5_blowersOf_4 : decode cX5_blowersOf 4 = .ok (.iload_n 3, 1) := dc0 (j := 4) sX5_blowersOf_0 rfl op_29
theorem dX5_blowersOf_5 : decode cX5_blowersOf 5 = .ok (.aload_n 0, 1) := dc0 (j := 5) sX5_blowersOf_0 rfl op_42
theorem dX5_blowersOf_6 : decode cX5_blowersOf 6 = .ok (.getfield 46, 3) := dcB (j := 6) (f := Instr.getfield) sX5_blowersOf_0 rfl op_180 rfl
theorem dX5_blowersOf_9 : decode cX5_blowersOf 9 = .ok (.if_icmp .ge 29, 3) := dcTp (j := 9) (v := 29) (f := Instr.if_icmp .ge) sX5_blowersOf_0 rfl op_162 rfl rfl
theorem dX5_blowersOf_12 : decode cX5_blowersOf 12 = .ok (.iload_n 2, 1) := dc0 (j := 12) sX5_blowersOf_0 rfl op_28
theorem dX5_blowersOf_13 : decode cX5_blowersOf 13 = .ok (.aload_n 0, 1) := dc0 (j := 13) sX5_blowersOf_0 rfl op_42
theorem dX5_blowersOf_14 : decode cX5_blowersOf 14 = .ok (.getfield 40, 3) := dcB (j := 14) (f := Instr.getfield) sX5_blowersOf_0 rfl op_180 rfl
theorem dX5_blowersOf_17 : decode cX5_blowersOf 17 = .ok (.iload_n 3, 1) := dc0 (j := 17) sX5_blowersOf_0 rfl op_29
theorem dX5_blowersOf_18 : decode cX5_blowersOf 18 = .ok (.iaload, 1) := dc0 (j := 18) sX5_blowersOf_0 rfl op_46
theorem dX5_blowersOf_19 : decode cX5_blowersOf 19 = .ok (.iload_n 1, 1) := dc0 (j := 19) sX5_blowersOf_0 rfl op_27
theorem dX5_blowersOf_20 : decode cX5_blowersOf 20 = .ok (.if_icmp .ne 9, 3) := dcTp (j := 20) (v := 9) (f := Instr.if_icmp .ne) sX5_blowersOf_0 rfl op_160 rfl rfl
theorem dX5_blowersOf_23 : decode cX5_blowersOf 23 = .ok (.iconst 1, 1) := dc0 (j := 23) sX5_blowersOf_0 rfl op_4
theorem dX5_blowersOf_24 : decode cX5_blowersOf 24 = .ok (.iload_n 3, 1) := dc0 (j := 24) sX5_blowersOf_0 rfl op_29
theorem dX5_blowersOf_25 : decode cX5_blowersOf 25 = .ok (.ishl, 1) := dc0 (j := 25) sX5_blowersOf_0 rfl op_120
theorem dX5_blowersOf_26 : decode cX5_blowersOf 26 = .ok (.goto 4, 3) := dcTp (j := 26) (v := 4) (f := Instr.goto) sX5_blowersOf_0 rfl op_167 rfl rfl
theorem dX5_blowersOf_29 : decode cX5_blowersOf 29 = .ok (.iconst 0, 1) := dc0 (j := 29) sX5_blowersOf_0 rfl op_3
theorem dX5_blowersOf_30 : decode cX5_blowersOf 30 = .ok (.ior, 1) := dc0 (j := 30) sX5_blowersOf_0 rfl op_128
theorem dX5_blowersOf_31 : decode cX5_blowersOf 31 = .ok (.istore_n 2, 1) := dc0 (j := 31) sX5_blowersOf_0 rfl op_61
theorem dX5_blowersOf_32 : decode cX5_blowersOf 32 = .ok (.iinc 3 1, 3) := dcIp (j := 32) sX5_blowersOf_0 rfl op_132 rfl
theorem sX5_blowersOf_35 : sgm cX5_blowersOf 35 [167, 255, 225, 28, 172] := by decide +kernel
theorem dX5_blowersOf_35 : decode cX5_blowersOf 35 = .ok (.goto (-31), 3) := dcTn (j := 0) (v := 31) (f := Instr.goto) sX5_blowersOf_35 rfl op_167 rfl rfl rfl
theorem dX5_blowersOf_38 : decode cX5_blowersOf 38 = .ok (.iload_n 2, 1) := dc0 (j := 3) sX5_blowersOf_35 rfl op_28
theorem dX5_blowersOf_39 : decode cX5_blowersOf 39 = .ok (.ireturn, 1) := dc0 (j := 4) sX5_blowersOf_35 rfl op_172
theorem sX5_blastOn_0 : sgm cX5_blastOn 0 [3, 62, 3, 54, 4, 21, 4, 42, 180, 0, 46, 162, 0, 39, 42, 180, 0, 40, 21, 4, 46, 27, 160, 0, 22, 28, 21, 4, 184, 0, 70, 153, 0, 13, 29, 42] := by decide +kernel
theorem dX5_blastOn_0 : decode cX5_blastOn 0 = .ok (.iconst 0, 1) := dc0 (j := 0) sX5_blastOn_0 rfl op_3
theorem dX5_blastOn_1 : decode cX5_blastOn 1 = .ok (.istore_n 3, 1) := dc0 (j := 1) sX5_blastOn_0 rfl op_62
theorem dX5_blastOn_2 : decode cX5_blastOn 2 = .ok (.iconst 0, 1) := dc0 (j := 2) sX5_blastOn_0 rfl op_3
theorem dX5_blastOn_3 : decode cX5_blastOn 3 = .ok (.istore 4, 2) := dcA (j := 3) (f := Instr.istore) sX5_blastOn_0 rfl op_54
theorem dX5_blastOn_5 : decode cX5_blastOn 5 = .ok (.iload 4, 2) := dcA (j := 5) (f := Instr.iload) sX5_blastOn_0 rfl op_21
theorem dX5_blastOn_7 : decode cX5_blastOn 7 = .ok (.aload_n 0, 1) := dc0 (j := 7) sX5_blastOn_0 rfl op_42
theorem dX5_blastOn_8 : decode cX5_blastOn 8 = .ok (.getfield 46, 3) := dcB (j := 8) (f := Instr.getfield) sX5_blastOn_0 rfl op_180 rfl
theorem dX5_blastOn_11 : decode cX5_blastOn 11 = .ok (.if_icmp .ge 39, 3) := dcTp (j := 11) (v := 39) (f := Instr.if_icmp .ge) sX5_blastOn_0 rfl op_162 rfl rfl
theorem dX5_blastOn_14 : decode cX5_blastOn 14 = .ok (.aload_n 0, 1) := dc0 (j := 14) sX5_blastOn_0 rfl op_42
theorem dX5_blastOn_15 : decode cX5_blastOn 15 = .ok (.getfield 40, 3) := dcB (j := 15) (f := Instr.getfield) sX5_blastOn_0 rfl op_180 rfl
theorem dX5_blastOn_18 : decode cX5_blastOn 18 = .ok (.iload 4, 2) := dcA (j := 18) (f := Instr.iload) sX5_blastOn_0 rfl op_21
theorem dX5_blastOn_20 : decode cX5_blastOn 20 = .ok (.iaload, 1) := dc0 (j := 20) sX5_blastOn_0 rfl op_46
theorem dX5_blastOn_21 : decode cX5_blastOn 21 = .ok (.iload_n 1, 1) := dc0 (j := 21) sX5_blastOn_0 rfl op_27
theorem dX5_blastOn_22 : decode cX5_blastOn 22 = .ok (.if_icmp .ne 22, 3) := dcTp (j := 22) (v := 22) (f := Instr.if_icmp .ne) sX5_blastOn_0 rfl op_160 rfl rfl
theorem dX5_blastOn_25 : decode cX5_blastOn 25 = .ok (.iload_n 2, 1) := dc0 (j := 25) sX5_blastOn_0 rfl op_28
theorem dX5_blastOn_26 : decode cX5_blastOn 26 = .ok (.iload 4, 2) := dcA (j := 26) (f := Instr.iload) sX5_blastOn_0 rfl op_21
theorem dX5_blastOn_28 : decode cX5_blastOn 28 = .ok (.invokestatic 70, 3) := dcB (j := 28) (f := Instr.invokestatic) sX5_blastOn_0 rfl op_184 rfl
theorem dX5_blastOn_31 : decode cX5_blastOn 31 = .ok (.ifCond .eq 13, 3) := dcTp (j := 31) (v := 13) (f := Instr.ifCond .eq) sX5_blastOn_0 rfl op_153 rfl rfl
theorem dX5_blastOn_34 : decode cX5_blastOn 34 = .ok (.iload_n 3, 1) := dc0 (j := 34) sX5_blastOn_0 rfl op_29
theorem dX5_blastOn_35 : decode cX5_blastOn 35 = .ok (.aload_n 0, 1) := dc0 (j := 35) sX5_blastOn_0 rfl op_42
theorem sX5_blastOn_36 : sgm cX5_blastOn 36 [180, 0, 15, 21, 4, 46, 96, 62, 132, 4, 1, 167, 255, 214, 29, 172] := by decide +kernel
theorem dX5_blastOn_36 : decode cX5_blastOn 36 = .ok (.getfield 15, 3) := dcB (j := 0) (f := Instr.getfield) sX5_blastOn_36 rfl op_180 rfl
theorem dX5_blastOn_39 : decode cX5_blastOn 39 = .ok (.iload 4, 2) := dcA (j := 3) (f := Instr.iload) sX5_blastOn_36 rfl op_21
theorem dX5_blastOn_41 : decode cX5_blastOn 41 = .ok (.iaload, 1) := dc0 (j := 5) sX5_blastOn_36 rfl op_46
theorem dX5_blastOn_42 : decode cX5_blastOn 42 = .ok (.iadd, 1) := dc0 (j := 6) sX5_blastOn_36 rfl op_96
theorem dX5_blastOn_43 : decode cX5_blastOn 43 = .ok (.istore_n 3, 1) := dc0 (j := 7) sX5_blastOn_36 rfl op_62
theorem dX5_blastOn_44 : decode cX5_blastOn 44 = .ok (.iinc 4 1, 3) := dcIp (j := 8) sX5_blastOn_36 rfl op_132 rfl
theorem dX5_blastOn_47 : decode cX5_blastOn 47 = .ok (.goto (-42), 3) := dcTn (j := 11) (v := 42) (f := Instr.goto) sX5_blastOn_36 rfl op_167 rfl rfl rfl
theorem dX5_blastOn_50 : decode cX5_blastOn 50 = .ok (.iload_n 3, 1) := dc0 (j := 14) sX5_blastOn_36 rfl op_29
theorem dX5_blastOn_51 : decode cX5_blastOn 51 = .ok (.ireturn, 1) := dc0 (j := 15) sX5_blastOn_36 rfl op_172
theorem sX5_heatBehind_0 : sgm cX5_heatBehind 0 [42, 180, 0, 22, 27, 46, 42, 27, 28, 182, 0, 73, 96, 42, 180, 0, 19, 27, 46, 100, 184, 0, 77, 172] := by decide +kernel
theorem dX5_heatBehind_0 : decode cX5_heatBehind 0 = .ok (.aload_n 0, 1) := dc0 (j := 0) sX5_heatBehind_0 rfl op_42
theorem dX5_heatBehind_1 : decode cX5_heatBehind 1 = .ok (.getfield 22, 3) := dcB (j := 1) (f := Instr.getfield) sX5_heatBehind_0 rfl op_180 rfl
theorem dX5_heatBehind_4 : decode cX5_heatBehind 4 = .ok (.iload_n 1, 1) := dc0 (j := 4) sX5_heatBehind_0 rfl op_27
theorem dX5_heatBehind_5 : decode cX5_heatBehind 5 = .ok (.iaload, 1) := dc0 (j := 5) sX5_heatBehind_0 rfl op_46
theorem dX5_heatBehind_6 : decode cX5_heatBehind 6 = .ok (.aload_n 0, 1) := dc0 (j := 6) sX5_heatBehind_0 rfl op_42
theorem dX5_heatBehind_7 : decode cX5_heatBehind 7 = .ok (.iload_n 1, 1) := dc0 (j := 7) sX5_heatBehind_0 rfl op_27
theorem dX5_heatBehind_8 : decode cX5_heatBehind 8 = .ok (.iload_n 2, 1) := dc0 (j := 8) sX5_heatBehind_0 rfl op_28
theorem dX5_heatBehind_9 : decode cX5_heatBehind 9 = .ok (.invokevirtual 73, 3) := dcB (j := 9) (f := Instr.invokevirtual) sX5_heatBehind_0 rfl op_182 rfl
theorem dX5_heatBehind_12 : decode cX5_heatBehind 12 = .ok (.iadd, 1) := dc0 (j := 12) sX5_heatBehind_0 rfl op_96
theorem dX5_heatBehind_13 : decode cX5_heatBehind 13 = .ok (.aload_n 0, 1) := dc0 (j := 13) sX5_heatBehind_0 rfl op_42
theorem dX5_heatBehind_14 : decode cX5_heatBehind 14 = .ok (.getfield 19, 3) := dcB (j := 14) (f := Instr.getfield) sX5_heatBehind_0 rfl op_180 rfl
theorem dX5_heatBehind_17 : decode cX5_heatBehind 17 = .ok (.iload_n 1, 1) := dc0 (j := 17) sX5_heatBehind_0 rfl op_27
theorem dX5_heatBehind_18 : decode cX5_heatBehind 18 = .ok (.iaload, 1) := dc0 (j := 18) sX5_heatBehind_0 rfl op_46
theorem dX5_heatBehind_19 : decode cX5_heatBehind 19 = .ok (.isub, 1) := dc0 (j := 19) sX5_heatBehind_0 rfl op_100
theorem dX5_heatBehind_20 : decode cX5_heatBehind 20 = .ok (.invokestatic 77, 3) := dcB (j := 20) (f := Instr.invokestatic) sX5_heatBehind_0 rfl op_184 rfl
theorem dX5_heatBehind_23 : decode cX5_heatBehind 23 = .ok (.ireturn, 1) := dc0 (j := 23) sX5_heatBehind_0 rfl op_172
theorem sX5_weighChanges_0 : sgm cX5_weighChanges 0 [3, 61, 28, 42, 180, 0, 46, 162, 0, 22, 42, 180, 0, 43, 28, 42, 180, 0, 19, 28, 46, 116, 79, 132, 2, 1, 167, 255, 232, 3, 61, 28, 42, 180, 0, 46] := by decide +kernel
theorem dX5_weighChanges_0 : decode cX5_weighChanges 0 = .ok (.iconst 0, 1) := dc0 (j := 0) sX5_weighChanges_0 rfl op_3
theorem dX5_weighChanges_1 : decode cX5_weighChanges 1 = .ok (.istore_n 2, 1) := dc0 (j := 1) sX5_weighChanges_0 rfl op_61
theorem dX5_weighChanges_2 : decode cX5_weighChanges 2 = .ok (.iload_n 2, 1) := dc0 (j := 2) sX5_weighChanges_0 rfl op_28
theorem dX5_weighChanges_3 : decode cX5_weighChanges 3 = .ok (.aload_n 0, 1) := dc0 (j := 3) sX5_weighChanges_0 rfl op_42
theorem dX5_weighChanges_4 : decode cX5_weighChanges 4 = .ok (.getfield 46, 3) := dcB (j := 4) (f := Instr.getfield) sX5_weighChanges_0 rfl op_180 rfl
theorem dX5_weighChanges_7 : decode cX5_weighChanges 7 = .ok (.if_icmp .ge 22, 3) := dcTp (j := 7) (v := 22) (f := Instr.if_icmp .ge) sX5_weighChanges_0 rfl op_162 rfl rfl
theorem dX5_weighChanges_10 : decode cX5_weighChanges 10 = .ok (.aload_n 0, 1) := dc0 (j := 10) sX5_weighChanges_0 rfl op_42
theorem dX5_weighChanges_11 : decode cX5_weighChanges 11 = .ok (.getfield 43, 3) := dcB (j := 11) (f := Instr.getfield) sX5_weighChanges_0 rfl op_180 rfl
theorem dX5_weighChanges_14 : decode cX5_weighChanges 14 = .ok (.iload_n 2, 1) := dc0 (j := 14) sX5_weighChanges_0 rfl op_28
theorem dX5_weighChanges_15 : decode cX5_weighChanges 15 = .ok (.aload_n 0, 1) := dc0 (j := 15) sX5_weighChanges_0 rfl op_42
theorem dX5_weighChanges_16 : decode cX5_weighChanges 16 = .ok (.getfield 19, 3) := dcB (j := 16) (f := Instr.getfield) sX5_weighChanges_0 rfl op_180 rfl
theorem dX5_weighChanges_19 : decode cX5_weighChanges 19 = .ok (.iload_n 2, 1) := dc0 (j := 19) sX5_weighChanges_0 rfl op_28
theorem dX5_weighChanges_20 : decode cX5_weighChanges 20 = .ok (.iaload, 1) := dc0 (j := 20) sX5_weighChanges_0 rfl op_46
theorem dX5_weighChanges_21 : decode cX5_weighChanges 21 = .ok (.ineg, 1) := dc0 (j := 21) sX5_weighChanges_0 rfl op_116
theorem dX5_weighChanges_22 : decode cX5_weighChanges 22 = .ok (.iastore, 1) := dc0 (j := 22) sX5_weighChanges_0 rfl op_79
theorem dX5_weighChanges_23 : decode cX5_weighChanges 23 = .ok (.iinc 2 1, 3) := dcIp (j := 23) sX5_weighChanges_0 rfl op_132 rfl
theorem dX5_weighChanges_26 : decode cX5_weighChanges 26 = .ok (.goto (-24), 3) := dcTn (j := 26) (v := 24) (f := Instr.goto) sX5_weighChanges_0 rfl op_167 rfl rfl rfl
theorem dX5_weighChanges_29 : decode cX5_weighChanges 29 = .ok (.iconst 0, 1) := dc0 (j := 29) sX5_weighChanges_0 rfl op_3
theorem dX5_weighChanges_30 : decode cX5_weighChanges 30 = .ok (.istore_n 2, 1) := dc0 (j := 30) sX5_weighChanges_0 rfl op_61
theorem dX5_weighChanges_31 : decode cX5_weighChanges 31 = .ok (.iload_n 2, 1) := dc0 (j := 31) sX5_weighChanges_0 rfl op_28
theorem dX5_weighChanges_32 : decode cX5_weighChanges 32 = .ok (.aload_n 0, 1) := dc0 (j := 32) sX5_weighChanges_0 rfl op_42
theorem dX5_weighChanges_33 : decode cX5_weighChanges 33 = .ok (.getfield 46, 3) := dcB (j := 33) (f := Instr.getfield) sX5_weighChanges_0 rfl op_180 rfl
theorem sX5_weighChanges_36 : sgm cX5_weighChanges 36 [162, 0, 37, 27, 28, 184, 0, 70, 153, 0, 23, 42, 180, 0, 43, 42, 180, 0, 40, 28, 46, 92, 46, 42, 180, 0, 15, 28, 46, 96, 79, 132, 2, 1] := by decide +kernel
theorem dX5_weighChanges_36 : decode cX5_weighChanges 36 = .ok (.if_icmp .ge 37, 3) := dcTp (j := 0) (v := 37) (f := Instr.if_icmp .ge) sX5_weighChanges_36 rfl op_162 rfl rfl
theorem dX5_weighChanges_39 : decode cX5_weighChanges 39 = .ok (.iload_n 1, 1) := dc0 (j := 3) sX5_weighChanges_36 rfl op_27
theorem dX5_weighChanges_40 : decode cX5_weighChanges 40 = .ok (.iload_n 2, 1) := dc0 (j := 4) sX5_weighChanges_36 rfl op_28
theorem dX5_weighChanges_41 : decode cX5_weighChanges 41 = .ok (.invokestatic 70, 3) := dcB (j := 5) (f := Instr.invokestatic) sX5_weighChanges_36 rfl op_184 rfl
theorem dX5_weighChanges_44 : decode cX5_weighChanges 44 = .ok (.ifCond .eq 23, 3) := dcTp (j := 8) (v := 23) (f := Instr.ifCond .eq) sX5_weighChanges_36 rfl op_153 rfl rfl
theorem dX5_weighChanges_47 : decode cX5_weighChanges 47 = .ok (.aload_n 0, 1) := dc0 (j := 11) sX5_weighChanges_36 rfl op_42
theorem dX5_weighChanges_48 : decode cX5_weighChanges 48 = .ok (.getfield 43, 3) := dcB (j := 12) (f := Instr.getfield) sX5_weighChanges_36 rfl op_180 rfl
theorem dX5_weighChanges_51 : decode cX5_weighChanges 51 = .ok (.aload_n 0, 1) := dc0 (j := 15) sX5_weighChanges_36 rfl op_42
theorem dX5_weighChanges_52 : decode cX5_weighChanges 52 = .ok (.getfield 40, 3) := dcB (j := 16) (f := Instr.getfield) sX5_weighChanges_36 rfl op_180 rfl
theorem dX5_weighChanges_55 : decode cX5_weighChanges 55 = .ok (.iload_n 2, 1) := dc0 (j := 19) sX5_weighChanges_36 rfl op_28
theorem dX5_weighChanges_56 : decode cX5_weighChanges 56 = .ok (.iaload, 1) := dc0 (j := 20) sX5_weighChanges_36 rfl op_46
theorem dX5_weighChanges_57 : decode cX5_weighChanges 57 = .ok (.dup2, 1) := dc0 (j := 21) sX5_weighChanges_36 rfl op_92
theorem dX5_weighChanges_58 : decode cX5_weighChanges 58 = .ok (.iaload, 1) := dc0 (j := 22) sX5_weighChanges_36 rfl op_46
theorem dX5_weighChanges_59 : decode cX5_weighChanges 59 = .ok (.aload_n 0, 1) := dc0 (j := 23) sX5_weighChanges_36 rfl op_42
theorem dX5_weighChanges_60 : decode cX5_weighChanges 60 = .ok (.getfield 15, 3) := dcB (j := 24) (f := Instr.getfield) sX5_weighChanges_36 rfl op_180 rfl
theorem dX5_weighChanges_63 : decode cX5_weighChanges 63 = .ok (.iload_n 2, 1) := dc0 (j := 27) sX5_weighChanges_36 rfl op_28
theorem dX5_weighChanges_64 : decode cX5_weighChanges 64 = .ok (.iaload, 1) := dc0 (j := 28) sX5_weighChanges_36 rfl op_46
theorem dX5_weighChanges_65 : decode cX5_weighChanges 65 = .ok (.iadd, 1) := dc0 (j := 29) sX5_weighChanges_36 rfl op_96
theorem dX5_weighChanges_66 : decode cX5_weighChanges 66 = .ok (.iastore, 1) := dc0 (j := 30) sX5_weighChanges_36 rfl op_79
theorem dX5_weighChanges_67 : decode cX5_weighChanges 67 = .ok (.iinc 2 1, 3) := dcIp (j := 31) sX5_weighChanges_36 rfl op_132 rfl
theorem sX5_weighChanges_70 : sgm cX5_weighChanges 70 [167, 255, 217, 177] := by decide +kernel
theorem dX5_weighChanges_70 : decode cX5_weighChanges 70 = .ok (.goto (-39), 3) := dcTn (j := 0) (v := 39) (f := Instr.goto) sX5_weighChanges_70 rfl op_167 rfl rfl rfl
theorem dX5_weighChanges_73 : decode cX5_weighChanges 73 = .ok (.return_, 1) := dc0 (j := 3) sX5_weighChanges_70 rfl op_177
theorem sX5_pass_0 : sgm cX5_pass 0 [3, 54, 5, 3, 54, 6, 21, 6, 42, 180, 0, 46, 162, 0, 41, 28, 21, 6, 184, 0, 70, 153, 0, 26, 42, 21, 6, 182, 0, 81, 153, 0, 17, 42] := by decide +kernel
theorem dX5_pass_0 : decode cX5_pass 0 = .ok (.iconst 0, 1) := dc0 (j := 0) sX5_pass_0 rfl op_3
theorem dX5_pass_1 : decode cX5_pass 1 = .ok (.istore 5, 2) := dcA (j := 1) (f := Instr.istore) sX5_pass_0 rfl op_54
theorem dX5_pass_3 : decode cX5_pass 3 = .ok (.iconst 0, 1) := dc0 (j := 3) sX5_pass_0 rfl op_3
theorem dX5_pass_4 : decode cX5_pass 4 = .ok (.istore 6, 2) := dcA (j := 4) (f := Instr.istore) sX5_pass_0 rfl op_54
theorem dX5_pass_6 : decode cX5_pass 6 = .ok (.iload 6, 2) := dcA (j := 6) (f := Instr.iload) sX5_pass_0 rfl op_21
theorem dX5_pass_8 : decode cX5_pass 8 = .ok (.aload_n 0, 1) := dc0 (j := 8) sX5_pass_0 rfl op_42
theorem dX5_pass_9 : decode cX5_pass 9 = .ok (.getfield 46, 3) := dcB (j := 9) (f := Instr.getfield) sX5_pass_0 rfl op_180 rfl
theorem dX5_pass_12 : decode cX5_pass 12 = .ok (.if_icmp .ge 41, 3) := dcTp (j := 12) (v := 41) (f := Instr.if_icmp .ge) sX5_pass_0 rfl op_162 rfl rfl
theorem dX5_pass_15 : decode cX5_pass 15 = .ok (.iload_n 2, 1) := dc0 (j := 15) sX5_pass_0 rfl op_28
theorem dX5_pass_16 : decode cX5_pass 16 = .ok (.iload 6, 2) := dcA (j := 16) (f := Instr.iload) sX5_pass_0 rfl op_21
theorem dX5_pass_18 : decode cX5_pass 18 = .ok (.invokestatic 70, 3) := dcB (j := 18) (f := Instr.invokestatic) sX5_pass_0 rfl op_184 rfl
theorem dX5_pass_21 : decode cX5_pass 21 = .ok (.ifCond .eq 26, 3) := dcTp (j := 21) (v := 26) (f := Instr.ifCond .eq) sX5_pass_0 rfl op_153 rfl rfl
theorem dX5_pass_24 : decode cX5_pass 24 = .ok (.aload_n 0, 1) := dc0 (j := 24) sX5_pass_0 rfl op_42
theorem dX5_pass_25 : decode cX5_pass 25 = .ok (.iload 6, 2) := dcA (j := 25) (f := Instr.iload) sX5_pass_0 rfl op_21
theorem dX5_pass_27 : decode cX5_pass 27 = .ok (.invokevirtual 81, 3) := dcB (j := 27) (f := Instr.invokevirtual) sX5_pass_0 rfl op_182 rfl
theorem dX5_pass_30 : decode cX5_pass 30 = .ok (.ifCond .eq 17, 3) := dcTp (j := 30) (v := 17) (f := Instr.ifCond .eq) sX5_pass_0 rfl op_153 rfl rfl
theorem dX5_pass_33 : decode cX5_pass 33 = .ok (.aload_n 0, 1) := dc0 (j := 33) sX5_pass_0 rfl op_42
theorem sX5_pass_34 : sgm cX5_pass 34 [180, 0, 34, 21, 6, 92, 46, 4, 96, 79, 132, 5, 1, 132, 6, 1, 167, 255, 212, 42, 27, 182, 0, 84, 42, 29, 182, 0, 88, 153, 0, 14, 42, 180, 0, 43] := by decide +kernel
theorem dX5_pass_34 : decode cX5_pass 34 = .ok (.getfield 34, 3) := dcB (j := 0) (f := Instr.getfield) sX5_pass_34 rfl op_180 rfl
theorem dX5_pass_37 : decode cX5_pass 37 = .ok (.iload 6, 2) := dcA (j := 3) (f := Instr.iload) sX5_pass_34 rfl op_21
theorem dX5_pass_39 : decode cX5_pass 39 = .ok (.dup2, 1) := dc0 (j := 5) sX5_pass_34 rfl op_92
theorem dX5_pass_40 : decode cX5_pass 40 = .ok (.iaload, 1) := dc0 (j := 6) sX5_pass_34 rfl op_46
theorem dX5_pass_41 : decode cX5_pass 41 = .ok (.iconst 1, 1) := dc0 (j := 7) sX5_pass_34 rfl op_4
theorem dX5_pass_42 : decode cX5_pass 42 = .ok (.iadd, 1) := dc0 (j := 8) sX5_pass_34 rfl op_96
theorem dX5_pass_43 : decode cX5_pass 43 = .ok (.iastore, 1) := dc0 (j := 9) sX5_pass_34 rfl op_79
theorem dX5_pass_44 : decode cX5_pass 44 = .ok (.iinc 5 1, 3) := dcIp (j := 10) sX5_pass_34 rfl op_132 rfl
theorem dX5_pass_47 : decode cX5_pass 47 = .ok (.iinc 6 1, 3) := dcIp (j := 13) sX5_pass_34 rfl op_132 rfl
theorem dX5_pass_50 : decode cX5_pass 50 = .ok (.goto (-44), 3) := dcTn (j := 16) (v := 44) (f := Instr.goto) sX5_pass_34 rfl op_167 rfl rfl rfl
theorem dX5_pass_53 : decode cX5_pass 53 = .ok (.aload_n 0, 1) := dc0 (j := 19) sX5_pass_34 rfl op_42
theorem dX5_pass_54 : decode cX5_pass 54 = .ok (.iload_n 1, 1) := dc0 (j := 20) sX5_pass_34 rfl op_27
theorem dX5_pass_55 : decode cX5_pass 55 = .ok (.invokevirtual 84, 3) := dcB (j := 21) (f := Instr.invokevirtual) sX5_pass_34 rfl op_182 rfl
theorem dX5_pass_58 : decode cX5_pass 58 = .ok (.aload_n 0, 1) := dc0 (j := 24) sX5_pass_34 rfl op_42
theorem dX5_pass_59 : decode cX5_pass 59 = .ok (.iload_n 3, 1) := dc0 (j := 25) sX5_pass_34 rfl op_29
theorem dX5_pass_60 : decode cX5_pass 60 = .ok (.invokevirtual 88, 3) := dcB (j := 26) (f := Instr.invokevirtual) sX5_pass_34 rfl op_182 rfl
theorem dX5_pass_63 : decode cX5_pass 63 = .ok (.ifCond .eq 14, 3) := dcTp (j := 29) (v := 14) (f := Instr.ifCond .eq) sX5_pass_34 rfl op_153 rfl rfl
theorem dX5_pass_66 : decode cX5_pass 66 = .ok (.aload_n 0, 1) := dc0 (j := 32) sX5_pass_34 rfl op_42
theorem dX5_pass_67 : decode cX5_pass 67 = .ok (.getfield 43, 3) := dcB (j := 33) (f := Instr.getfield) sX5_pass_34 rfl op_180 rfl
theorem sX5_pass_70 : sgm cX5_pass 70 [29, 92, 46, 21, 4, 96, 79, 3, 54, 6, 21, 6, 42, 180, 0, 46, 162, 0, 40, 42, 180, 0, 22, 21, 6, 42, 180, 0, 22, 21, 6, 46, 42, 180, 0, 43] := by decide +kernel
theorem dX5_pass_70 : decode cX5_pass 70 = .ok (.iload_n 3, 1) := dc0 (j := 0) sX5_pass_70 rfl op_29
theorem dX5_pass_71 : decode cX5_pass 71 = .ok (.dup2, 1) := dc0 (j := 1) sX5_pass_70 rfl op_92
theorem dX5_pass_72 : decode cX5_pass 72 = .ok (.iaload, 1) := dc0 (j := 2) sX5_pass_70 rfl op_46
theorem dX5_pass_73 : decode cX5_pass 73 = .ok (.iload 4, 2) := dcA (j := 3) (f := Instr.iload) sX5_pass_70 rfl op_21
theorem dX5_pass_75 : decode cX5_pass 75 = .ok (.iadd, 1) := dc0 (j := 5) sX5_pass_70 rfl op_96
theorem dX5_pass_76 : decode cX5_pass 76 = .ok (.iastore, 1) := dc0 (j := 6) sX5_pass_70 rfl op_79
theorem dX5_pass_77 : decode cX5_pass 77 = .ok (.iconst 0, 1) := dc0 (j := 7) sX5_pass_70 rfl op_3
theorem dX5_pass_78 : decode cX5_pass 78 = .ok (.istore 6, 2) := dcA (j := 8) (f := Instr.istore) sX5_pass_70 rfl op_54
theorem dX5_pass_80 : decode cX5_pass 80 = .ok (.iload 6, 2) := dcA (j := 10) (f := Instr.iload) sX5_pass_70 rfl op_21
theorem dX5_pass_82 : decode cX5_pass 82 = .ok (.aload_n 0, 1) := dc0 (j := 12) sX5_pass_70 rfl op_42
theorem dX5_pass_83 : decode cX5_pass 83 = .ok (.getfield 46, 3) := dcB (j := 13) (f := Instr.getfield) sX5_pass_70 rfl op_180 rfl
theorem dX5_pass_86 : decode cX5_pass 86 = .ok (.if_icmp .ge 40, 3) := dcTp (j := 16) (v := 40) (f := Instr.if_icmp .ge) sX5_pass_70 rfl op_162 rfl rfl
theorem dX5_pass_89 : decode cX5_pass 89 = .ok (.aload_n 0, 1) := dc0 (j := 19) sX5_pass_70 rfl op_42
theorem dX5_pass_90 : decode cX5_pass 90 = .ok (.getfield 22, 3) := dcB (j := 20) (f := Instr.getfield) sX5_pass_70 rfl op_180 rfl
theorem dX5_pass_93 : decode cX5_pass 93 = .ok (.iload 6, 2) := dcA (j := 23) (f := Instr.iload) sX5_pass_70 rfl op_21
theorem dX5_pass_95 : decode cX5_pass 95 = .ok (.aload_n 0, 1) := dc0 (j := 25) sX5_pass_70 rfl op_42
theorem dX5_pass_96 : decode cX5_pass 96 = .ok (.getfield 22, 3) := dcB (j := 26) (f := Instr.getfield) sX5_pass_70 rfl op_180 rfl
theorem dX5_pass_99 : decode cX5_pass 99 = .ok (.iload 6, 2) := dcA (j := 29) (f := Instr.iload) sX5_pass_70 rfl op_21
theorem dX5_pass_101 : decode cX5_pass 101 = .ok (.iaload, 1) := dc0 (j := 31) sX5_pass_70 rfl op_46
theorem dX5_pass_102 : decode cX5_pass 102 = .ok (.aload_n 0, 1) := dc0 (j := 32) sX5_pass_70 rfl op_42
theorem dX5_pass_103 : decode cX5_pass 103 = .ok (.getfield 43, 3) := dcB (j := 33) (f := Instr.getfield) sX5_pass_70 rfl op_180 rfl
theorem sX5_pass_106 : sgm cX5_pass 106 [21, 6, 46, 96, 184, 0, 77, 79, 42, 21, 6, 182, 0, 91, 132, 6, 1, 167, 255, 213, 42, 89, 180, 0, 49, 4, 96, 181, 0, 49, 21, 5, 172] := by decide +kernel
theorem dX5_pass_106 : decode cX5_pass 106 = .ok (.iload 6, 2) := dcA (j := 0) (f := Instr.iload) sX5_pass_106 rfl op_21
theorem dX5_pass_108 : decode cX5_pass 108 = .ok (.iaload, 1) := dc0 (j := 2) sX5_pass_106 rfl op_46
theorem dX5_pass_109 : decode cX5_pass 109 = .ok (.iadd, 1) := dc0 (j := 3) sX5_pass_106 rfl op_96
theorem dX5_pass_110 : decode cX5_pass 110 = .ok (.invokestatic 77, 3) := dcB (j := 4) (f := Instr.invokestatic) sX5_pass_106 rfl op_184 rfl
theorem dX5_pass_113 : decode cX5_pass 113 = .ok (.iastore, 1) := dc0 (j := 7) sX5_pass_106 rfl op_79
theorem dX5_pass_114 : decode cX5_pass 114 = .ok (.aload_n 0, 1) := dc0 (j := 8) sX5_pass_106 rfl op_42
theorem dX5_pass_115 : decode cX5_pass 115 = .ok (.iload 6, 2) := dcA (j := 9) (f := Instr.iload) sX5_pass_106 rfl op_21
theorem dX5_pass_117 : decode cX5_pass 117 = .ok (.invokevirtual 91, 3) := dcB (j := 11) (f := Instr.invokevirtual) sX5_pass_106 rfl op_182 rfl
theorem dX5_pass_120 : decode cX5_pass 120 = .ok (.iinc 6 1, 3) := dcIp (j := 14) sX5_pass_106 rfl op_132 rfl
theorem dX5_pass_123 : decode cX5_pass 123 = .ok (.goto (-43), 3) := dcTn (j := 17) (v := 43) (f := Instr.goto) sX5_pass_106 rfl op_167 rfl rfl rfl
theorem dX5_pass_126 : decode cX5_pass 126 = .ok (.aload_n 0, 1) := dc0 (j := 20) sX5_pass_106 rfl op_42
theorem dX5_pass_127 : decode cX5_pass 127 = .ok (.dup, 1) := dc0 (j := 21) sX5_pass_106 rfl op_89
theorem dX5_pass_128 : decode cX5_pass 128 = .ok (.getfield 49, 3) := dcB (j := 22) (f := Instr.getfield) sX5_pass_106 rfl op_180 rfl
theorem dX5_pass_131 : decode cX5_pass 131 = .ok (.iconst 1, 1) := dc0 (j := 25) sX5_pass_106 rfl op_4
theorem dX5_pass_132 : decode cX5_pass 132 = .ok (.iadd, 1) := dc0 (j := 26) sX5_pass_106 rfl op_96
theorem dX5_pass_133 : decode cX5_pass 133 = .ok (.putfield 49, 3) := dcB (j := 27) (f := Instr.putfield) sX5_pass_106 rfl op_181 rfl
theorem dX5_pass_136 : decode cX5_pass 136 = .ok (.iload 5, 2) := dcA (j := 30) (f := Instr.iload) sX5_pass_106 rfl op_21
theorem dX5_pass_138 : decode cX5_pass 138 = .ok (.ireturn, 1) := dc0 (j := 32) sX5_pass_106 rfl op_172
theorem sX5_burn_0 : sgm cX5_burn 0 [42, 27, 182, 0, 62, 154, 0, 68, 42, 180, 0, 34, 27, 46, 158, 0, 59, 42, 180, 0, 22, 27, 46, 42, 180, 0, 28, 27, 46, 164, 0, 44, 42, 180, 0, 34] := by decide +kernel
theorem dX5_burn_0 : decode cX5_burn 0 = .ok (.aload_n 0, 1) := dc0 (j := 0) sX5_burn_0 rfl op_42
theorem dX5_burn_1 : decode cX5_burn 1 = .ok (.iload_n 1, 1) := dc0 (j := 1) sX5_burn_0 rfl op_27
theorem dX5_burn_2 : decode cX5_burn 2 = .ok (.invokevirtual 62, 3) := dcB (j := 2) (f := Instr.invokevirtual) sX5_burn_0 rfl op_182 rfl
theorem dX5_burn_5 : decode cX5_burn 5 = .ok (.ifCond .ne 68, 3) := dcTp (j := 5) (v := 68) (f := Instr.ifCond .ne) sX5_burn_0 rfl op_154 rfl rfl
theorem dX5_burn_8 : decode cX5_burn 8 = .ok (.aload_n 0, 1) := dc0 (j := 8) sX5_burn_0 rfl op_42
theorem dX5_burn_9 : decode cX5_burn 9 = .ok (.getfield 34, 3) := dcB (j := 9) (f := Instr.getfield) sX5_burn_0 rfl op_180 rfl
theorem dX5_burn_12 : decode cX5_burn 12 = .ok (.iload_n 1, 1) := dc0 (j := 12) sX5_burn_0 rfl op_27
theorem dX5_burn_13 : decode cX5_burn 13 = .ok (.iaload, 1) := dc0 (j := 13) sX5_burn_0 rfl op_46
theorem dX5_burn_14 : decode cX5_burn 14 = .ok (.ifCond .le 59, 3) := dcTp (j := 14) (v := 59) (f := Instr.ifCond .le) sX5_burn_0 rfl op_158 rfl rfl
theorem dX5_burn_17 : decode cX5_burn 17 = .ok (.aload_n 0, 1) := dc0 (j := 17) sX5_burn_0 rfl op_42
theorem dX5_burn_18 : decode cX5_burn 18 = .ok (.getfield 22, 3) := dcB (j := 18) (f := Instr.getfield) sX5_burn_0 rfl op_180 rfl
theorem dX5_burn_21 : decode cX5_burn 21 = .ok (.iload_n 1, 1) := dc0 (j := 21) sX5_burn_0 rfl op_27
theorem dX5_burn_22 : decode cX5_burn 22 = .ok (.iaload, 1) := dc0 (j := 22) sX5_burn_0 rfl op_46
theorem dX5_burn_23 : decode cX5_burn 23 = .ok (.aload_n 0, 1) := dc0 (j := 23) sX5_burn_0 rfl op_42
theorem dX5_burn_24 : decode cX5_burn 24 = .ok (.getfield 28, 3) := dcB (j := 24) (f := Instr.getfield) sX5_burn_0 rfl op_180 rfl
theorem dX5_burn_27 : decode cX5_burn 27 = .ok (.iload_n 1, 1) := dc0 (j := 27) sX5_burn_0 rfl op_27
theorem dX5_burn_28 : decode cX5_burn 28 = .ok (.iaload, 1) := dc0 (j := 28) sX5_burn_0 rfl op_46
theorem dX5_burn_29 : decode cX5_burn 29 = .ok (.if_icmp .le 44, 3) := dcTp (j := 29) (v := 44) (f := Instr.if_icmp .le) sX5_burn_0 rfl op_164 rfl rfl
theorem dX5_burn_32 : decode cX5_burn 32 = .ok (.aload_n 0, 1) := dc0 (j := 32) sX5_burn_0 rfl op_42
theorem dX5_burn_33 : decode cX5_burn 33 = .ok (.getfield 34, 3) := dcB (j := 33) (f := Instr.getfield) sX5_burn_0 rfl op_180 rfl
theorem sX5_burn_36 : sgm cX5_burn 36 [27, 3, 42, 180, 0, 34, 27, 46, 42, 180, 0, 9, 100, 184, 0, 94, 79, 42, 180, 0, 37, 27, 92, 46, 4, 96, 79, 42, 89, 180, 0, 55, 4, 96] := by decide +kernel
theorem dX5_burn_36 : decode cX5_burn 36 = .ok (.iload_n 1, 1) := dc0 (j := 0) sX5_burn_36 rfl op_27
theorem dX5_burn_37 : decode cX5_burn 37 = .ok (.iconst 0, 1) := dc0 (j := 1) sX5_burn_36 rfl op_3
theorem dX5_burn_38 : decode cX5_burn 38 = .ok (.aload_n 0, 1) := dc0 (j := 2) sX5_burn_36 rfl op_42
theorem dX5_burn_39 : decode cX5_burn 39 = .ok (.getfield 34, 3) := dcB (j := 3) (f := Instr.getfield) sX5_burn_36 rfl op_180 rfl
theorem dX5_burn_42 : decode cX5_burn 42 = .ok (.iload_n 1, 1) := dc0 (j := 6) sX5_burn_36 rfl op_27
theorem dX5_burn_43 : decode cX5_burn 43 = .ok (.iaload, 1) := dc0 (j := 7) sX5_burn_36 rfl op_46
theorem dX5_burn_44 : decode cX5_burn 44 = .ok (.aload_n 0, 1) := dc0 (j := 8) sX5_burn_36 rfl op_42
theorem dX5_burn_45 : decode cX5_burn 45 = .ok (.getfield 9, 3) := dcB (j := 9) (f := Instr.getfield) sX5_burn_36 rfl op_180 rfl
theorem dX5_burn_48 : decode cX5_burn 48 = .ok (.isub, 1) := dc0 (j := 12) sX5_burn_36 rfl op_100
theorem dX5_burn_49 : decode cX5_burn 49 = .ok (.invokestatic 94, 3) := dcB (j := 13) (f := Instr.invokestatic) sX5_burn_36 rfl op_184 rfl
theorem dX5_burn_52 : decode cX5_burn 52 = .ok (.iastore, 1) := dc0 (j := 16) sX5_burn_36 rfl op_79
theorem dX5_burn_53 : decode cX5_burn 53 = .ok (.aload_n 0, 1) := dc0 (j := 17) sX5_burn_36 rfl op_42
theorem dX5_burn_54 : decode cX5_burn 54 = .ok (.getfield 37, 3) := dcB (j := 18) (f := Instr.getfield) sX5_burn_36 rfl op_180 rfl
theorem dX5_burn_57 : decode cX5_burn 57 = .ok (.iload_n 1, 1) := dc0 (j := 21) sX5_burn_36 rfl op_27
theorem dX5_burn_58 : decode cX5_burn 58 = .ok (.dup2, 1) := dc0 (j := 22) sX5_burn_36 rfl op_92
theorem dX5_burn_59 : decode cX5_burn 59 = .ok (.iaload, 1) := dc0 (j := 23) sX5_burn_36 rfl op_46
theorem dX5_burn_60 : decode cX5_burn 60 = .ok (.iconst 1, 1) := dc0 (j := 24) sX5_burn_36 rfl op_4
theorem dX5_burn_61 : decode cX5_burn 61 = .ok (.iadd, 1) := dc0 (j := 25) sX5_burn_36 rfl op_96
theorem dX5_burn_62 : decode cX5_burn 62 = .ok (.iastore, 1) := dc0 (j := 26) sX5_burn_36 rfl op_79
theorem dX5_burn_63 : decode cX5_burn 63 = .ok (.aload_n 0, 1) := dc0 (j := 27) sX5_burn_36 rfl op_42
theorem dX5_burn_64 : decode cX5_burn 64 = .ok (.dup, 1) := dc0 (j := 28) sX5_burn_36 rfl op_89
theorem dX5_burn_65 : decode cX5_burn 65 = .ok (.getfield 55, 3) := dcB (j := 29) (f := Instr.getfield) sX5_burn_36 rfl op_180 rfl
theorem dX5_burn_68 : decode cX5_burn 68 = .ok (.iconst 1, 1) := dc0 (j := 32) sX5_burn_36 rfl op_4
theorem dX5_burn_69 : decode cX5_burn 69 = .ok (.iadd, 1) := dc0 (j := 33) sX5_burn_36 rfl op_96
theorem sX5_burn_70 : sgm cX5_burn 70 [181, 0, 55, 177] := by decide +kernel
theorem dX5_burn_70 : decode cX5_burn 70 = .ok (.putfield 55, 3) := dcB (j := 0) (f := Instr.putfield) sX5_burn_70 rfl op_181 rfl
theorem dX5_burn_73 : decode cX5_burn 73 = .ok (.return_, 1) := dc0 (j := 3) sX5_burn_70 rfl op_177
theorem sX5_bears_0 : sgm cX5_bears 0 [42, 180, 0, 22, 27, 46, 28, 96, 42, 180, 0, 28, 27, 46, 163, 0, 7, 4, 167, 0, 4, 3, 172] := by decide +kernel
theorem dX5_bears_0 : decode cX5_bears 0 = .ok (.aload_n 0, 1) := dc0 (j := 0) sX5_bears_0 rfl op_42
theorem dX5_bears_1 : decode cX5_bears 1 = .ok (.getfield 22, 3) := dcB (j := 1) (f := Instr.getfield) sX5_bears_0 rfl op_180 rfl
theorem dX5_bears_4 : decode cX5_bears 4 = .ok (.iload_n 1, 1) := dc0 (j := 4) sX5_bears_0 rfl op_27
theorem dX5_bears_5 : decode cX5_bears 5 = .ok (.iaload, 1) := dc0 (j := 5) sX5_bears_0 rfl op_46
theorem dX5_bears_6 : decode cX5_bears 6 = .ok (.iload_n 2, 1) := dc0 (j := 6) sX5_bears_0 rfl op_28
theorem dX5_bears_7 : decode cX5_bears 7 = .ok (.iadd, 1) := dc0 (j := 7) sX5_bears_0 rfl op_96
theorem dX5_bears_8 : decode cX5_bears 8 = .ok (.aload_n 0, 1) := dc0 (j := 8) sX5_bears_0 rfl op_42
theorem dX5_bears_9 : decode cX5_bears 9 = .ok (.getfield 28, 3) := dcB (j := 9) (f := Instr.getfield) sX5_bears_0 rfl op_180 rfl
theorem dX5_bears_12 : decode cX5_bears 12 = .ok (.iload_n 1, 1) := dc0 (j := 12) sX5_bears_0 rfl op_27
theorem dX5_bears_13 : decode cX5_bears 13 = .ok (.iaload, 1) := dc0 (j := 13) sX5_bears_0 rfl op_46
theorem dX5_bears_14 : decode cX5_bears 14 = .ok (.if_icmp .gt 7, 3) := dcTp (j := 14) (v := 7) (f := Instr.if_icmp .gt) sX5_bears_0 rfl op_163 rfl rfl
theorem dX5_bears_17 : decode cX5_bears 17 = .ok (.iconst 1, 1) := dc0 (j := 17) sX5_bears_0 rfl op_4
theorem dX5_bears_18 : decode cX5_bears 18 = .ok (.goto 4, 3) := dcTp (j := 18) (v := 4) (f := Instr.goto) sX5_bears_0 rfl op_167 rfl rfl
theorem dX5_bears_21 : decode cX5_bears 21 = .ok (.iconst 0, 1) := dc0 (j := 21) sX5_bears_0 rfl op_3
theorem dX5_bears_22 : decode cX5_bears 22 = .ok (.ireturn, 1) := dc0 (j := 22) sX5_bears_0 rfl op_172
theorem sX5_passByCustom_0 : sgm cX5_passByCustom 0 [3, 54, 4, 3, 54, 5, 3, 54, 6, 21, 6, 42, 180, 0, 46, 162, 0, 72, 27, 21, 6, 184, 0, 70, 153, 0, 6, 167, 0, 54, 42, 21, 6, 182, 0, 81] := by decide +kernel
theorem dX5_passByCustom_0 : decode cX5_passByCustom 0 = .ok (.iconst 0, 1) := dc0 (j := 0) sX5_passByCustom_0 rfl op_3
theorem dX5_passByCustom_1 : decode cX5_passByCustom 1 = .ok (.istore 4, 2) := dcA (j := 1) (f := Instr.istore) sX5_passByCustom_0 rfl op_54
theorem dX5_passByCustom_3 : decode cX5_passByCustom 3 = .ok (.iconst 0, 1) := dc0 (j := 3) sX5_passByCustom_0 rfl op_3
theorem dX5_passByCustom_4 : decode cX5_passByCustom 4 = .ok (.istore 5, 2) := dcA (j := 4) (f := Instr.istore) sX5_passByCustom_0 rfl op_54
theorem dX5_passByCustom_6 : decode cX5_passByCustom 6 = .ok (.iconst 0, 1) := dc0 (j := 6) sX5_passByCustom_0 rfl op_3
theorem dX5_passByCustom_7 : decode cX5_passByCustom 7 = .ok (.istore 6, 2) := dcA (j := 7) (f := Instr.istore) sX5_passByCustom_0 rfl op_54
theorem dX5_passByCustom_9 : decode cX5_passByCustom 9 = .ok (.iload 6, 2) := dcA (j := 9) (f := Instr.iload) sX5_passByCustom_0 rfl op_21
theorem dX5_passByCustom_11 : decode cX5_passByCustom 11 = .ok (.aload_n 0, 1) := dc0 (j := 11) sX5_passByCustom_0 rfl op_42
theorem dX5_passByCustom_12 : decode cX5_passByCustom 12 = .ok (.getfield 46, 3) := dcB (j := 12) (f := Instr.getfield) sX5_passByCustom_0 rfl op_180 rfl
theorem dX5_passByCustom_15 : decode cX5_passByCustom 15 = .ok (.if_icmp .ge 72, 3) := dcTp (j := 15) (v := 72) (f := Instr.if_icmp .ge) sX5_passByCustom_0 rfl op_162 rfl rfl
theorem dX5_passByCustom_18 : decode cX5_passByCustom 18 = .ok (.iload_n 1, 1) := dc0 (j := 18) sX5_passByCustom_0 rfl op_27
theorem dX5_passByCustom_19 : decode cX5_passByCustom 19 = .ok (.iload 6, 2) := dcA (j := 19) (f := Instr.iload) sX5_passByCustom_0 rfl op_21
theorem dX5_passByCustom_21 : decode cX5_passByCustom 21 = .ok (.invokestatic 70, 3) := dcB (j := 21) (f := Instr.invokestatic) sX5_passByCustom_0 rfl op_184 rfl
theorem dX5_passByCustom_24 : decode cX5_passByCustom 24 = .ok (.ifCond .eq 6, 3) := dcTp (j := 24) (v := 6) (f := Instr.ifCond .eq) sX5_passByCustom_0 rfl op_153 rfl rfl
theorem dX5_passByCustom_27 : decode cX5_passByCustom 27 = .ok (.goto 54, 3) := dcTp (j := 27) (v := 54) (f := Instr.goto) sX5_passByCustom_0 rfl op_167 rfl rfl
theorem dX5_passByCustom_30 : decode cX5_passByCustom 30 = .ok (.aload_n 0, 1) := dc0 (j := 30) sX5_passByCustom_0 rfl op_42
theorem dX5_passByCustom_31 : decode cX5_passByCustom 31 = .ok (.iload 6, 2) := dcA (j := 31) (f := Instr.iload) sX5_passByCustom_0 rfl op_21
theorem dX5_passByCustom_33 : decode cX5_passByCustom 33 = .ok (.invokevirtual 81, 3) := dcB (j := 33) (f := Instr.invokevirtual) sX5_passByCustom_0 rfl op_182 rfl
theorem sX5_passByCustom_36 : sgm cX5_passByCustom 36 [153, 0, 15, 21, 4, 4, 21, 6, 120, 128, 54, 4, 167, 0, 33, 42, 42, 180, 0, 40, 21, 6, 46, 42, 180, 0, 15, 21, 6, 46, 182, 0, 99, 153, 0, 12] := by decide +kernel
theorem dX5_passByCustom_36 : decode cX5_passByCustom 36 = .ok (.ifCond .eq 15, 3) := dcTp (j := 0) (v := 15) (f := Instr.ifCond .eq) sX5_passByCustom_36 rfl op_153 rfl rfl
theorem dX5_passByCustom_39 : decode cX5_passByCustom 39 = .ok (.iload 4, 2) := dcA (j := 3) (f := Instr.iload) sX5_passByCustom_36 rfl op_21
theorem dX5_passByCustom_41 : decode cX5_passByCustom 41 = .ok (.iconst 1, 1) := dc0 (j := 5) sX5_passByCustom_36 rfl op_4
theorem dX5_passByCustom_42 : decode cX5_passByCustom 42 = .ok (.iload 6, 2) := dcA (j := 6) (f := Instr.iload) sX5_passByCustom_36 rfl op_21
theorem dX5_passByCustom_44 : decode cX5_passByCustom 44 = .ok (.ishl, 1) := dc0 (j := 8) sX5_passByCustom_36 rfl op_120
theorem dX5_passByCustom_45 : decode cX5_passByCustom 45 = .ok (.ior, 1) := dc0 (j := 9) sX5_passByCustom_36 rfl op_128
theorem dX5_passByCustom_46 : decode cX5_passByCustom 46 = .ok (.istore 4, 2) := dcA (j := 10) (f := Instr.istore) sX5_passByCustom_36 rfl op_54
theorem dX5_passByCustom_48 : decode cX5_passByCustom 48 = .ok (.goto 33, 3) := dcTp (j := 12) (v := 33) (f := Instr.goto) sX5_passByCustom_36 rfl op_167 rfl rfl
theorem dX5_passByCustom_51 : decode cX5_passByCustom 51 = .ok (.aload_n 0, 1) := dc0 (j := 15) sX5_passByCustom_36 rfl op_42
theorem dX5_passByCustom_52 : decode cX5_passByCustom 52 = .ok (.aload_n 0, 1) := dc0 (j := 16) sX5_passByCustom_36 rfl op_42
theorem dX5_passByCustom_53 : decode cX5_passByCustom 53 = .ok (.getfield 40, 3) := dcB (j := 17) (f := Instr.getfield) sX5_passByCustom_36 rfl op_180 rfl
theorem dX5_passByCustom_56 : decode cX5_passByCustom 56 = .ok (.iload 6, 2) := dcA (j := 20) (f := Instr.iload) sX5_passByCustom_36 rfl op_21
theorem dX5_passByCustom_58 : decode cX5_passByCustom 58 = .ok (.iaload, 1) := dc0 (j := 22) sX5_passByCustom_36 rfl op_46
theorem dX5_passByCustom_59 : decode cX5_passByCustom 59 = .ok (.aload_n 0, 1) := dc0 (j := 23) sX5_passByCustom_36 rfl op_42
theorem dX5_passByCustom_60 : decode cX5_passByCustom 60 = .ok (.getfield 15, 3) := dcB (j := 24) (f := Instr.getfield) sX5_passByCustom_36 rfl op_180 rfl
theorem dX5_passByCustom_63 : decode cX5_passByCustom 63 = .ok (.iload 6, 2) := dcA (j := 27) (f := Instr.iload) sX5_passByCustom_36 rfl op_21
theorem dX5_passByCustom_65 : decode cX5_passByCustom 65 = .ok (.iaload, 1) := dc0 (j := 29) sX5_passByCustom_36 rfl op_46
theorem dX5_passByCustom_66 : decode cX5_passByCustom 66 = .ok (.invokevirtual 99, 3) := dcB (j := 30) (f := Instr.invokevirtual) sX5_passByCustom_36 rfl op_182 rfl
theorem dX5_passByCustom_69 : decode cX5_passByCustom 69 = .ok (.ifCond .eq 12, 3) := dcTp (j := 33) (v := 12) (f := Instr.ifCond .eq) sX5_passByCustom_36 rfl op_153 rfl rfl
theorem sX5_passByCustom_72 : sgm cX5_passByCustom 72 [21, 5, 4, 21, 6, 120, 128, 54, 5, 132, 6, 1, 167, 255, 181, 42, 28, 182, 0, 88, 153, 0, 16, 42, 28, 29, 182, 0, 99, 153, 0, 7, 4, 167, 0, 4] := by decide +kernel
theorem dX5_passByCustom_72 : decode cX5_passByCustom 72 = .ok (.iload 5, 2) := dcA (j := 0) (f := Instr.iload) sX5_passByCustom_72 rfl op_21
theorem dX5_passByCustom_74 : decode cX5_passByCustom 74 = .ok (.iconst 1, 1) := dc0 (j := 2) sX5_passByCustom_72 rfl op_4
theorem dX5_passByCustom_75 : decode cX5_passByCustom 75 = .ok (.iload 6, 2) := dcA (j := 3) (f := Instr.iload) sX5_passByCustom_72 rfl op_21
theorem dX5_passByCustom_77 : decode cX5_passByCustom 77 = .ok (.ishl, 1) := dc0 (j := 5) sX5_passByCustom_72 rfl op_120
theorem dX5_passByCustom_78 : decode cX5_passByCustom 78 = .ok (.ior, 1) := dc0 (j := 6) sX5_passByCustom_72 rfl op_128
theorem dX5_passByCustom_79 : decode cX5_passByCustom 79 = .ok (.istore 5, 2) := dcA (j := 7) (f := Instr.istore) sX5_passByCustom_72 rfl op_54
theorem dX5_passByCustom_81 : decode cX5_passByCustom 81 = .ok (.iinc 6 1, 3) := dcIp (j := 9) sX5_passByCustom_72 rfl op_132 rfl
theorem dX5_passByCustom_84 : decode cX5_passByCustom 84 = .ok (.goto (-75), 3) := dcTn (j := 12) (v := 75) (f := Instr.goto) sX5_passByCustom_72 rfl op_167 rfl rfl rfl
theorem dX5_passByCustom_87 : decode cX5_passByCustom 87 = .ok (.aload_n 0, 1) := dc0 (j := 15) sX5_passByCustom_72 rfl op_42
theorem dX5_passByCustom_88 : decode cX5_passByCustom 88 = .ok (.iload_n 2, 1) := dc0 (j := 16) sX5_passByCustom_72 rfl op_28
theorem dX5_passByCustom_89 : decode cX5_passByCustom 89 = .ok (.invokevirtual 88, 3) := dcB (j := 17) (f := Instr.invokevirtual) sX5_passByCustom_72 rfl op_182 rfl
theorem dX5_passByCustom_92 : decode cX5_passByCustom 92 = .ok (.ifCond .eq 16, 3) := dcTp (j := 20) (v := 16) (f := Instr.ifCond .eq) sX5_passByCustom_72 rfl op_153 rfl rfl
theorem dX5_passByCustom_95 : decode cX5_passByCustom 95 = .ok (.aload_n 0, 1) := dc0 (j := 23) sX5_passByCustom_72 rfl op_42
theorem dX5_passByCustom_96 : decode cX5_passByCustom 96 = .ok (.iload_n 2, 1) := dc0 (j := 24) sX5_passByCustom_72 rfl op_28
theorem dX5_passByCustom_97 : decode cX5_passByCustom 97 = .ok (.iload_n 3, 1) := dc0 (j := 25) sX5_passByCustom_72 rfl op_29
theorem dX5_passByCustom_98 : decode cX5_passByCustom 98 = .ok (.invokevirtual 99, 3) := dcB (j := 26) (f := Instr.invokevirtual) sX5_passByCustom_72 rfl op_182 rfl
theorem dX5_passByCustom_101 : decode cX5_passByCustom 101 = .ok (.ifCond .eq 7, 3) := dcTp (j := 29) (v := 7) (f := Instr.ifCond .eq) sX5_passByCustom_72 rfl op_153 rfl rfl
theorem dX5_passByCustom_104 : decode cX5_passByCustom 104 = .ok (.iconst 1, 1) := dc0 (j := 32) sX5_passByCustom_72 rfl op_4
theorem dX5_passByCustom_105 : decode cX5_passByCustom 105 = .ok (.goto 4, 3) := dcTp (j := 33) (v := 4) (f := Instr.goto) sX5_passByCustom_72 rfl op_167 rfl rfl
theorem sX5_passByCustom_108 : sgm cX5_passByCustom 108 [3, 54, 6, 42, 21, 5, 21, 4, 21, 6, 153, 0, 7, 28, 167, 0, 4, 2, 29, 182, 0, 102, 172] := by decide +kernel
theorem dX5_passByCustom_108 : decode cX5_passByCustom 108 = .ok (.iconst 0, 1) := dc0 (j := 0) sX5_passByCustom_108 rfl op_3
theorem dX5_passByCustom_109 : decode cX5_passByCustom 109 = .ok (.istore 6, 2) := dcA (j := 1) (f := Instr.istore) sX5_passByCustom_108 rfl op_54
theorem dX5_passByCustom_111 : decode cX5_passByCustom 111 = .ok (.aload_n 0, 1) := dc0 (j := 3) sX5_passByCustom_108 rfl op_42
theorem dX5_passByCustom_112 : decode cX5_passByCustom 112 = .ok (.iload 5, 2) := dcA (j := 4) (f := Instr.iload) sX5_passByCustom_108 rfl op_21
theorem dX5_passByCustom_114 : decode cX5_passByCustom 114 = .ok (.iload 4, 2) := dcA (j := 6) (f := Instr.iload) sX5_passByCustom_108 rfl op_21
theorem dX5_passByCustom_116 : decode cX5_passByCustom 116 = .ok (.iload 6, 2) := dcA (j := 8) (f := Instr.iload) sX5_passByCustom_108 rfl op_21
theorem dX5_passByCustom_118 : decode cX5_passByCustom 118 = .ok (.ifCond .eq 7, 3) := dcTp (j := 10) (v := 7) (f := Instr.ifCond .eq) sX5_passByCustom_108 rfl op_153 rfl rfl
theorem dX5_passByCustom_121 : decode cX5_passByCustom 121 = .ok (.iload_n 2, 1) := dc0 (j := 13) sX5_passByCustom_108 rfl op_28
theorem dX5_passByCustom_122 : decode cX5_passByCustom 122 = .ok (.goto 4, 3) := dcTp (j := 14) (v := 4) (f := Instr.goto) sX5_passByCustom_108 rfl op_167 rfl rfl
theorem dX5_passByCustom_125 : decode cX5_passByCustom 125 = .ok (.iconst (-1), 1) := dc0 (j := 17) sX5_passByCustom_108 rfl op_2
theorem dX5_passByCustom_126 : decode cX5_passByCustom 126 = .ok (.iload_n 3, 1) := dc0 (j := 18) sX5_passByCustom_108 rfl op_29
theorem dX5_passByCustom_127 : decode cX5_passByCustom 127 = .ok (.invokevirtual 102, 3) := dcB (j := 19) (f := Instr.invokevirtual) sX5_passByCustom_108 rfl op_182 rfl
theorem dX5_passByCustom_130 : decode cX5_passByCustom 130 = .ok (.ireturn, 1) := dc0 (j := 22) sX5_passByCustom_108 rfl op_172
theorem sX5_passAllByCustom_0 : sgm cX5_passAllByCustom 0 [3, 54, 5, 3, 54, 6, 21, 6, 27, 162, 0, 22, 21, 5, 42, 28, 29, 21, 4, 182, 0, 106, 96, 54, 5, 132, 6, 1, 167, 255, 234, 21, 5, 172] := by decide +kernel
theorem dX5_passAllByCustom_0 : decode cX5_passAllByCustom 0 = .ok (.iconst 0, 1) := dc0 (j := 0) sX5_passAllByCustom_0 rfl op_3
theorem dX5_passAllByCustom_1 : decode cX5_passAllByCustom 1 = .ok (.istore 5, 2) := dcA (j := 1) (f := Instr.istore) sX5_passAllByCustom_0 rfl op_54
theorem dX5_passAllByCustom_3 : decode cX5_passAllByCustom 3 = .ok (.iconst 0, 1) := dc0 (j := 3) sX5_passAllByCustom_0 rfl op_3
theorem dX5_passAllByCustom_4 : decode cX5_passAllByCustom 4 = .ok (.istore 6, 2) := dcA (j := 4) (f := Instr.istore) sX5_passAllByCustom_0 rfl op_54
theorem dX5_passAllByCustom_6 : decode cX5_passAllByCustom 6 = .ok (.iload 6, 2) := dcA (j := 6) (f := Instr.iload) sX5_passAllByCustom_0 rfl op_21
theorem dX5_passAllByCustom_8 : decode cX5_passAllByCustom 8 = .ok (.iload_n 1, 1) := dc0 (j := 8) sX5_passAllByCustom_0 rfl op_27
theorem dX5_passAllByCustom_9 : decode cX5_passAllByCustom 9 = .ok (.if_icmp .ge 22, 3) := dcTp (j := 9) (v := 22) (f := Instr.if_icmp .ge) sX5_passAllByCustom_0 rfl op_162 rfl rfl
theorem dX5_passAllByCustom_12 : decode cX5_passAllByCustom 12 = .ok (.iload 5, 2) := dcA (j := 12) (f := Instr.iload) sX5_passAllByCustom_0 rfl op_21
theorem dX5_passAllByCustom_14 : decode cX5_passAllByCustom 14 = .ok (.aload_n 0, 1) := dc0 (j := 14) sX5_passAllByCustom_0 rfl op_42
theorem dX5_passAllByCustom_15 : decode cX5_passAllByCustom 15 = .ok (.iload_n 2, 1) := dc0 (j := 15) sX5_passAllByCustom_0 rfl op_28
theorem dX5_passAllByCustom_16 : decode cX5_passAllByCustom 16 = .ok (.iload_n 3, 1) := dc0 (j := 16) sX5_passAllByCustom_0 rfl op_29
theorem dX5_passAllByCustom_17 : decode cX5_passAllByCustom 17 = .ok (.iload 4, 2) := dcA (j := 17) (f := Instr.iload) sX5_passAllByCustom_0 rfl op_21
theorem dX5_passAllByCustom_19 : decode cX5_passAllByCustom 19 = .ok (.invokevirtual 106, 3) := dcB (j := 19) (f := Instr.invokevirtual) sX5_passAllByCustom_0 rfl op_182 rfl
theorem dX5_passAllByCustom_22 : decode cX5_passAllByCustom 22 = .ok (.iadd, 1) := dc0 (j := 22) sX5_passAllByCustom_0 rfl op_96
theorem dX5_passAllByCustom_23 : decode cX5_passAllByCustom 23 = .ok (.istore 5, 2) := dcA (j := 23) (f := Instr.istore) sX5_passAllByCustom_0 rfl op_54
theorem dX5_passAllByCustom_25 : decode cX5_passAllByCustom 25 = .ok (.iinc 6 1, 3) := dcIp (j := 25) sX5_passAllByCustom_0 rfl op_132 rfl
theorem dX5_passAllByCustom_28 : decode cX5_passAllByCustom 28 = .ok (.goto (-22), 3) := dcTn (j := 28) (v := 22) (f := Instr.goto) sX5_passAllByCustom_0 rfl op_167 rfl rfl rfl
theorem dX5_passAllByCustom_31 : decode cX5_passAllByCustom 31 = .ok (.iload 5, 2) := dcA (j := 31) (f := Instr.iload) sX5_passAllByCustom_0 rfl op_21
theorem dX5_passAllByCustom_33 : decode cX5_passAllByCustom 33 = .ok (.ireturn, 1) := dc0 (j := 33) sX5_passAllByCustom_0 rfl op_172
theorem sX5_piecesDone_0 : sgm cX5_piecesDone 0 [3, 60, 3, 61, 28, 42, 180, 0, 46, 162, 0, 25, 27, 42, 28, 182, 0, 62, 153, 0, 7, 4, 167, 0, 4, 3, 96, 60, 132, 2, 1, 167, 255, 229, 27, 172] := by decide +kernel
theorem dX5_piecesDone_0 : decode cX5_piecesDone 0 = .ok (.iconst 0, 1) := dc0 (j := 0) sX5_piecesDone_0 rfl op_3
theorem dX5_piecesDone_1 : decode cX5_piecesDone 1 = .ok (.istore_n 1, 1) := dc0 (j := 1) sX5_piecesDone_0 rfl op_60
theorem dX5_piecesDone_2 : decode cX5_piecesDone 2 = .ok (.iconst 0, 1) := dc0 (j := 2) sX5_piecesDone_0 rfl op_3
theorem dX5_piecesDone_3 : decode cX5_piecesDone 3 = .ok (.istore_n 2, 1) := dc0 (j := 3) sX5_piecesDone_0 rfl op_61
theorem dX5_piecesDone_4 : decode cX5_piecesDone 4 = .ok (.iload_n 2, 1) := dc0 (j := 4) sX5_piecesDone_0 rfl op_28
theorem dX5_piecesDone_5 : decode cX5_piecesDone 5 = .ok (.aload_n 0, 1) := dc0 (j := 5) sX5_piecesDone_0 rfl op_42
theorem dX5_piecesDone_6 : decode cX5_piecesDone 6 = .ok (.getfield 46, 3) := dcB (j := 6) (f := Instr.getfield) sX5_piecesDone_0 rfl op_180 rfl
theorem dX5_piecesDone_9 : decode cX5_piecesDone 9 = .ok (.if_icmp .ge 25, 3) := dcTp (j := 9) (v := 25) (f := Instr.if_icmp .ge) sX5_piecesDone_0 rfl op_162 rfl rfl
theorem dX5_piecesDone_12 : decode cX5_piecesDone 12 = .ok (.iload_n 1, 1) := dc0 (j := 12) sX5_piecesDone_0 rfl op_27
theorem dX5_piecesDone_13 : decode cX5_piecesDone 13 = .ok (.aload_n 0, 1) := dc0 (j := 13) sX5_piecesDone_0 rfl op_42
theorem dX5_piecesDone_14 : decode cX5_piecesDone 14 = .ok (.iload_n 2, 1) := dc0 (j := 14) sX5_piecesDone_0 rfl op_28
theorem dX5_piecesDone_15 : decode cX5_piecesDone 15 = .ok (.invokevirtual 62, 3) := dcB (j := 15) (f := Instr.invokevirtual) sX5_piecesDone_0 rfl op_182 rfl
theorem dX5_piecesDone_18 : decode cX5_piecesDone 18 = .ok (.ifCond .eq 7, 3) := dcTp (j := 18) (v := 7) (f := Instr.ifCond .eq) sX5_piecesDone_0 rfl op_153 rfl rfl
theorem dX5_piecesDone_21 : decode cX5_piecesDone 21 = .ok (.iconst 1, 1) := dc0 (j := 21) sX5_piecesDone_0 rfl op_4
theorem dX5_piecesDone_22 : decode cX5_piecesDone 22 = .ok (.goto 4, 3) := dcTp (j := 22) (v := 4) (f := Instr.goto) sX5_piecesDone_0 rfl op_167 rfl rfl
theorem dX5_piecesDone_25 : decode cX5_piecesDone 25 = .ok (.iconst 0, 1) := dc0 (j := 25) sX5_piecesDone_0 rfl op_3
theorem dX5_piecesDone_26 : decode cX5_piecesDone 26 = .ok (.iadd, 1) := dc0 (j := 26) sX5_piecesDone_0 rfl op_96
theorem dX5_piecesDone_27 : decode cX5_piecesDone 27 = .ok (.istore_n 1, 1) := dc0 (j := 27) sX5_piecesDone_0 rfl op_60
theorem dX5_piecesDone_28 : decode cX5_piecesDone 28 = .ok (.iinc 2 1, 3) := dcIp (j := 28) sX5_piecesDone_0 rfl op_132 rfl
theorem dX5_piecesDone_31 : decode cX5_piecesDone 31 = .ok (.goto (-27), 3) := dcTn (j := 31) (v := 27) (f := Instr.goto) sX5_piecesDone_0 rfl op_167 rfl rfl rfl
theorem dX5_piecesDone_34 : decode cX5_piecesDone 34 = .ok (.iload_n 1, 1) := dc0 (j := 34) sX5_piecesDone_0 rfl op_27
theorem dX5_piecesDone_35 : decode cX5_piecesDone 35 = .ok (.ireturn, 1) := dc0 (j := 35) sX5_piecesDone_0 rfl op_172
theorem sX5_heatTogether_0 : sgm cX5_heatTogether 0 [3, 60, 3, 61, 28, 42, 180, 0, 46, 162, 0, 18, 27, 42, 180, 0, 22, 28, 46, 96, 60, 132, 2, 1, 167, 255, 236, 27, 172] := by decide +kernel
theorem dX5_heatTogether_0 : decode cX5_heatTogether 0 = .ok (.iconst 0, 1) := dc0 (j := 0) sX5_heatTogether_0 rfl op_3
theorem dX5_heatTogether_1 : decode cX5_heatTogether 1 = .ok (.istore_n 1, 1) := dc0 (j := 1) sX5_heatTogether_0 rfl op_60
theorem dX5_heatTogether_2 : decode cX5_heatTogether 2 = .ok (.iconst 0, 1) := dc0 (j := 2) sX5_heatTogether_0 rfl op_3
theorem dX5_heatTogether_3 : decode cX5_heatTogether 3 = .ok (.istore_n 2, 1) := dc0 (j := 3) sX5_heatTogether_0 rfl op_61
theorem dX5_heatTogether_4 : decode cX5_heatTogether 4 = .ok (.iload_n 2, 1) := dc0 (j := 4) sX5_heatTogether_0 rfl op_28
theorem dX5_heatTogether_5 : decode cX5_heatTogether 5 = .ok (.aload_n 0, 1) := dc0 (j := 5) sX5_heatTogether_0 rfl op_42
theorem dX5_heatTogether_6 : decode cX5_heatTogether 6 = .ok (.getfield 46, 3) := dcB (j := 6) (f := Instr.getfield) sX5_heatTogether_0 rfl op_180 rfl
theorem dX5_heatTogether_9 : decode cX5_heatTogether 9 = .ok (.if_icmp .ge 18, 3) := dcTp (j := 9) (v := 18) (f := Instr.if_icmp .ge) sX5_heatTogether_0 rfl op_162 rfl rfl
theorem dX5_heatTogether_12 : decode cX5_heatTogether 12 = .ok (.iload_n 1, 1) := dc0 (j := 12) sX5_heatTogether_0 rfl op_27
theorem dX5_heatTogether_13 : decode cX5_heatTogether 13 = .ok (.aload_n 0, 1) := dc0 (j := 13) sX5_heatTogether_0 rfl op_42
theorem dX5_heatTogether_14 : decode cX5_heatTogether 14 = .ok (.getfield 22, 3) := dcB (j := 14) (f := Instr.getfield) sX5_heatTogether_0 rfl op_180 rfl
theorem dX5_heatTogether_17 : decode cX5_heatTogether 17 = .ok (.iload_n 2, 1) := dc0 (j := 17) sX5_heatTogether_0 rfl op_28
theorem dX5_heatTogether_18 : decode cX5_heatTogether 18 = .ok (.iaload, 1) := dc0 (j := 18) sX5_heatTogether_0 rfl op_46
theorem dX5_heatTogether_19 : decode cX5_heatTogether 19 = .ok (.iadd, 1) := dc0 (j := 19) sX5_heatTogether_0 rfl op_96
theorem dX5_heatTogether_20 : decode cX5_heatTogether 20 = .ok (.istore_n 1, 1) := dc0 (j := 20) sX5_heatTogether_0 rfl op_60
theorem dX5_heatTogether_21 : decode cX5_heatTogether 21 = .ok (.iinc 2 1, 3) := dcIp (j := 21) sX5_heatTogether_0 rfl op_132 rfl
theorem dX5_heatTogether_24 : decode cX5_heatTogether 24 = .ok (.goto (-20), 3) := dcTn (j := 24) (v := 20) (f := Instr.goto) sX5_heatTogether_0 rfl op_167 rfl rfl rfl
theorem dX5_heatTogether_27 : decode cX5_heatTogether 27 = .ok (.iload_n 1, 1) := dc0 (j := 27) sX5_heatTogether_0 rfl op_27
theorem dX5_heatTogether_28 : decode cX5_heatTogether 28 = .ok (.ireturn, 1) := dc0 (j := 28) sX5_heatTogether_0 rfl op_172
theorem sX5_workable_0 : sgm cX5_workable 0 [3, 60, 3, 61, 28, 42, 180, 0, 46, 162, 0, 33, 27, 42, 28, 42, 180, 0, 22, 28, 46, 182, 0, 66, 153, 0, 9, 4, 28, 120, 167, 0, 4, 3, 128, 60] := by decide +kernel
theorem dX5_workable_0 : decode cX5_workable 0 = .ok (.iconst 0, 1) := dc0 (j := 0) sX5_workable_0 rfl op_3
theorem dX5_workable_1 : decode cX5_workable 1 = .ok (.istore_n 1, 1) := dc0 (j := 1) sX5_workable_0 rfl op_60
theorem dX5_workable_2 : decode cX5_workable 2 = .ok (.iconst 0, 1) := dc0 (j := 2) sX5_workable_0 rfl op_3
theorem dX5_workable_3 : decode cX5_workable 3 = .ok (.istore_n 2, 1) := dc0 (j := 3) sX5_workable_0 rfl op_61
theorem dX5_workable_4 : decode cX5_workable 4 = .ok (.iload_n 2, 1) := dc0 (j := 4) sX5_workable_0 rfl op_28
theorem dX5_workable_5 : decode cX5_workable 5 = .ok (.aload_n 0, 1) := dc0 (j := 5) sX5_workable_0 rfl op_42
theorem dX5_workable_6 : decode cX5_workable 6 = .ok (.getfield 46, 3) := dcB (j := 6) (f := Instr.getfield) sX5_workable_0 rfl op_180 rfl
theorem dX5_workable_9 : decode cX5_workable 9 = .ok (.if_icmp .ge 33, 3) := dcTp (j := 9) (v := 33) (f := Instr.if_icmp .ge) sX5_workable_0 rfl op_162 rfl rfl
theorem dX5_workable_12 : decode cX5_workable 12 = .ok (.iload_n 1, 1) := dc0 (j := 12) sX5_workable_0 rfl op_27
theorem dX5_workable_13 : decode cX5_workable 13 = .ok (.aload_n 0, 1) := dc0 (j := 13) sX5_workable_0 rfl op_42
theorem dX5_workable_14 : decode cX5_workable 14 = .ok (.iload_n 2, 1) := dc0 (j := 14) sX5_workable_0 rfl op_28
theorem dX5_workable_15 : decode cX5_workable 15 = .ok (.aload_n 0, 1) := dc0 (j := 15) sX5_workable_0 rfl op_42
theorem dX5_workable_16 : decode cX5_workable 16 = .ok (.getfield 22, 3) := dcB (j := 16) (f := Instr.getfield) sX5_workable_0 rfl op_180 rfl
theorem dX5_workable_19 : decode cX5_workable 19 = .ok (.iload_n 2, 1) := dc0 (j := 19) sX5_workable_0 rfl op_28
theorem dX5_workable_20 : decode cX5_workable 20 = .ok (.iaload, 1) := dc0 (j := 20) sX5_workable_0 rfl op_46
theorem dX5_workable_21 : decode cX5_workable 21 = .ok (.invokevirtual 66, 3) := dcB (j := 21) (f := Instr.invokevirtual) sX5_workable_0 rfl op_182 rfl
theorem dX5_workable_24 : decode cX5_workable 24 = .ok (.ifCond .eq 9, 3) := dcTp (j := 24) (v := 9) (f := Instr.ifCond .eq) sX5_workable_0 rfl op_153 rfl rfl
theorem dX5_workable_27 : decode cX5_workable 27 = .ok (.iconst 1, 1) := dc0 (j := 27) sX5_workable_0 rfl op_4
theorem dX5_workable_28 : decode cX5_workable 28 = .ok (.iload_n 2, 1) := dc0 (j := 28) sX5_workable_0 rfl op_28
theorem dX5_workable_29 : decode cX5_workable 29 = .ok (.ishl, 1) := dc0 (j := 29) sX5_workable_0 rfl op_120
theorem dX5_workable_30 : decode cX5_workable 30 = .ok (.goto 4, 3) := dcTp (j := 30) (v := 4) (f := Instr.goto) sX5_workable_0 rfl op_167 rfl rfl
theorem dX5_workable_33 : decode cX5_workable 33 = .ok (.iconst 0, 1) := dc0 (j := 33) sX5_workable_0 rfl op_3
theorem dX5_workable_34 : decode cX5_workable 34 = .ok (.ior, 1) := dc0 (j := 34) sX5_workable_0 rfl op_128
theorem dX5_workable_35 : decode cX5_workable 35 = .ok (.istore_n 1, 1) := dc0 (j := 35) sX5_workable_0 rfl op_60
theorem sX5_workable_36 : sgm cX5_workable 36 [132, 2, 1, 167, 255, 221, 27, 172] := by decide +kernel
theorem dX5_workable_36 : decode cX5_workable 36 = .ok (.iinc 2 1, 3) := dcIp (j := 0) sX5_workable_36 rfl op_132 rfl
theorem dX5_workable_39 : decode cX5_workable 39 = .ok (.goto (-35), 3) := dcTn (j := 3) (v := 35) (f := Instr.goto) sX5_workable_36 rfl op_167 rfl rfl rfl
theorem dX5_workable_42 : decode cX5_workable 42 = .ok (.iload_n 1, 1) := dc0 (j := 6) sX5_workable_36 rfl op_27
theorem dX5_workable_43 : decode cX5_workable 43 = .ok (.ireturn, 1) := dc0 (j := 7) sX5_workable_36 rfl op_172
theorem sX5_inRing_0 : sgm cX5_inRing 0 [27, 61, 3, 62, 29, 42, 180, 0, 46, 162, 0, 16, 42, 180, 0, 40, 28, 46, 61, 132, 3, 1, 167, 255, 238, 28, 172] := by decide +kernel
theorem dX5_inRing_0 : decode cX5_inRing 0 = .ok (.iload_n 1, 1) := dc0 (j := 0) sX5_inRing_0 rfl op_27
theorem dX5_inRing_1 : decode cX5_inRing 1 = .ok (.istore_n 2, 1) := dc0 (j := 1) sX5_inRing_0 rfl op_61
theorem dX5_inRing_2 : decode cX5_inRing 2 = .ok (.iconst 0, 1) := dc0 (j := 2) sX5_inRing_0 rfl op_3
theorem dX5_inRing_3 : decode cX5_inRing 3 = .ok (.istore_n 3, 1) := dc0 (j := 3) sX5_inRing_0 rfl op_62
theorem dX5_inRing_4 : decode cX5_inRing 4 = .ok (.iload_n 3, 1) := dc0 (j := 4) sX5_inRing_0 rfl op_29
theorem dX5_inRing_5 : decode cX5_inRing 5 = .ok (.aload_n 0, 1) := dc0 (j := 5) sX5_inRing_0 rfl op_42
theorem dX5_inRing_6 : decode cX5_inRing 6 = .ok (.getfield 46, 3) := dcB (j := 6) (f := Instr.getfield) sX5_inRing_0 rfl op_180 rfl
theorem dX5_inRing_9 : decode cX5_inRing 9 = .ok (.if_icmp .ge 16, 3) := dcTp (j := 9) (v := 16) (f := Instr.if_icmp .ge) sX5_inRing_0 rfl op_162 rfl rfl
theorem dX5_inRing_12 : decode cX5_inRing 12 = .ok (.aload_n 0, 1) := dc0 (j := 12) sX5_inRing_0 rfl op_42
theorem dX5_inRing_13 : decode cX5_inRing 13 = .ok (.getfield 40, 3) := dcB (j := 13) (f := Instr.getfield) sX5_inRing_0 rfl op_180 rfl
theorem dX5_inRing_16 : decode cX5_inRing 16 = .ok (.iload_n 2, 1) := dc0 (j := 16) sX5_inRing_0 rfl op_28
theorem dX5_inRing_17 : decode cX5_inRing 17 = .ok (.iaload, 1) := dc0 (j := 17) sX5_inRing_0 rfl op_46
theorem dX5_inRing_18 : decode cX5_inRing 18 = .ok (.istore_n 2, 1) := dc0 (j := 18) sX5_inRing_0 rfl op_61
theorem dX5_inRing_19 : decode cX5_inRing 19 = .ok (.iinc 3 1, 3) := dcIp (j := 19) sX5_inRing_0 rfl op_132 rfl
theorem dX5_inRing_22 : decode cX5_inRing 22 = .ok (.goto (-18), 3) := dcTn (j := 22) (v := 18) (f := Instr.goto) sX5_inRing_0 rfl op_167 rfl rfl rfl
theorem dX5_inRing_25 : decode cX5_inRing 25 = .ok (.iload_n 2, 1) := dc0 (j := 25) sX5_inRing_0 rfl op_28
theorem dX5_inRing_26 : decode cX5_inRing 26 = .ok (.ireturn, 1) := dc0 (j := 26) sX5_inRing_0 rfl op_172
theorem sX5_ringLength_0 : sgm cX5_ringLength 0 [42, 180, 0, 40, 27, 46, 61, 4, 62, 28, 27, 159, 0, 24, 29, 42, 180, 0, 46, 162, 0, 16, 42, 180, 0, 40, 28, 46, 61, 132, 3, 1, 167, 255, 233, 29] := by decide +kernel
theorem dX5_ringLength_0 : decode cX5_ringLength 0 = .ok (.aload_n 0, 1) := dc0 (j := 0) sX5_ringLength_0 rfl op_42
theorem dX5_ringLength_1 : decode cX5_ringLength 1 = .ok (.getfield 40, 3) := dcB (j := 1) (f := Instr.getfield) sX5_ringLength_0 rfl op_180 rfl
theorem dX5_ringLength_4 : decode cX5_ringLength 4 = .ok (.iload_n 1, 1) := dc0 (j := 4) sX5_ringLength_0 rfl op_27
theorem dX5_ringLength_5 : decode cX5_ringLength 5 = .ok (.iaload, 1) := dc0 (j := 5) sX5_ringLength_0 rfl op_46
theorem dX5_ringLength_6 : decode cX5_ringLength 6 = .ok (.istore_n 2, 1) := dc0 (j := 6) sX5_ringLength_0 rfl op_61
theorem dX5_ringLength_7 : decode cX5_ringLength 7 = .ok (.iconst 1, 1) := dc0 (j := 7) sX5_ringLength_0 rfl op_4
theorem dX5_ringLength_8 : decode cX5_ringLength 8 = .ok (.istore_n 3, 1) := dc0 (j := 8) sX5_ringLength_0 rfl op_62
theorem dX5_ringLength_9 : decode cX5_ringLength 9 = .ok (.iload_n 2, 1) := dc0 (j := 9) sX5_ringLength_0 rfl op_28
theorem dX5_ringLength_10 : decode cX5_ringLength 10 = .ok (.iload_n 1, 1) := dc0 (j := 10) sX5_ringLength_0 rfl op_27
theorem dX5_ringLength_11 : decode cX5_ringLength 11 = .ok (.if_icmp .eq 24, 3) := dcTp (j := 11) (v := 24) (f := Instr.if_icmp .eq) sX5_ringLength_0 rfl op_159 rfl rfl
theorem dX5_ringLength_14 : decode cX5_ringLength 14 = .ok (.iload_n 3, 1) := dc0 (j := 14) sX5_ringLength_0 rfl op_29
theorem dX5_ringLength_15 : decode cX5_ringLength 15 = .ok (.aload_n 0, 1) := dc0 (j := 15) sX5_ringLength_0 rfl op_42
theorem dX5_ringLength_16 : decode cX5_ringLength 16 = .ok (.getfield 46, 3) := dcB (j := 16) (f := Instr.getfield) sX5_ringLength_0 rfl op_180 rfl
theorem dX5_ringLength_19 : decode cX5_ringLength 19 = .ok (.if_icmp .ge 16, 3) := dcTp (j := 19) (v := 16) (f := Instr.if_icmp .ge) sX5_ringLength_0 rfl op_162 rfl rfl
theorem dX5_ringLength_22 : decode cX5_ringLength 22 = .ok (.aload_n 0, 1) := dc0 (j := 22) sX5_ringLength_0 rfl op_42
theorem dX5_ringLength_23 : decode cX5_ringLength 23 = .ok (.getfield 40, 3) := dcB (j := 23) (f := Instr.getfield) sX5_ringLength_0 rfl op_180 rfl
theorem dX5_ringLength_26 : decode cX5_ringLength 26 = .ok (.iload_n 2, 1) := dc0 (j := 26) sX5_ringLength_0 rfl op_28
theorem dX5_ringLength_27 : decode cX5_ringLength 27 = .ok (.iaload, 1) := dc0 (j := 27) sX5_ringLength_0 rfl op_46
theorem dX5_ringLength_28 : decode cX5_ringLength 28 = .ok (.istore_n 2, 1) := dc0 (j := 28) sX5_ringLength_0 rfl op_61
theorem dX5_ringLength_29 : decode cX5_ringLength 29 = .ok (.iinc 3 1, 3) := dcIp (j := 29) sX5_ringLength_0 rfl op_132 rfl
theorem dX5_ringLength_32 : decode cX5_ringLength 32 = .ok (.goto (-23), 3) := dcTn (j := 32) (v := 23) (f := Instr.goto) sX5_ringLength_0 rfl op_167 rfl rfl rfl
theorem dX5_ringLength_35 : decode cX5_ringLength 35 = .ok (.iload_n 3, 1) := dc0 (j := 35) sX5_ringLength_0 rfl op_29
theorem sX5_ringLength_36 : sgm cX5_ringLength 36 [172] := by decide +kernel
theorem dX5_ringLength_36 : decode cX5_ringLength 36 = .ok (.ireturn, 1) := dc0 (j := 0) sX5_ringLength_36 rfl op_172
theorem sX5_isLeastOfRing_0 : sgm cX5_isLeastOfRing 0 [42, 180, 0, 40, 27, 46, 61, 3, 62, 29, 42, 180, 0, 46, 162, 0, 21, 28, 27, 164, 0, 16, 42, 180, 0, 40, 28, 46, 61, 132, 3, 1, 167, 255, 233, 28] := by decide +kernel
theorem dX5_isLeastOfRing_0 : decode cX5_isLeastOfRing 0 = .ok (.aload_n 0, 1) := dc0 (j := 0) sX5_isLeastOfRing_0 rfl op_42
theorem dX5_isLeastOfRing_1 : decode cX5_isLeastOfRing 1 = .ok (.getfield 40, 3) := dcB (j := 1) (f := Instr.getfield) sX5_isLeastOfRing_0 rfl op_180 rfl
theorem dX5_isLeastOfRing_4 : decode cX5_isLeastOfRing 4 = .ok (.iload_n 1, 1) := dc0 (j := 4) sX5_isLeastOfRing_0 rfl op_27
theorem dX5_isLeastOfRing_5 : decode cX5_isLeastOfRing 5 = .ok (.iaload, 1) := dc0 (j := 5) sX5_isLeastOfRing_0 rfl op_46
theorem dX5_isLeastOfRing_6 : decode cX5_isLeastOfRing 6 = .ok (.istore_n 2, 1) := dc0 (j := 6) sX5_isLeastOfRing_0 rfl op_61
theorem dX5_isLeastOfRing_7 : decode cX5_isLeastOfRing 7 = .ok (.iconst 0, 1) := dc0 (j := 7) sX5_isLeastOfRing_0 rfl op_3
theorem dX5_isLeastOfRing_8 : decode cX5_isLeastOfRing 8 = .ok (.istore_n 3, 1) := dc0 (j := 8) sX5_isLeastOfRing_0 rfl op_62
theorem dX5_isLeastOfRing_9 : decode cX5_isLeastOfRing 9 = .ok (.iload_n 3, 1) := dc0 (j := 9) sX5_isLeastOfRing_0 rfl op_29
theorem dX5_isLeastOfRing_10 : decode cX5_isLeastOfRing 10 = .ok (.aload_n 0, 1) := dc0 (j := 10) sX5_isLeastOfRing_0 rfl op_42
theorem dX5_isLeastOfRing_11 : decode cX5_isLeastOfRing 11 = .ok (.getfield 46, 3) := dcB (j := 11) (f := Instr.getfield) sX5_isLeastOfRing_0 rfl op_180 rfl
theorem dX5_isLeastOfRing_14 : decode cX5_isLeastOfRing 14 = .ok (.if_icmp .ge 21, 3) := dcTp (j := 14) (v := 21) (f := Instr.if_icmp .ge) sX5_isLeastOfRing_0 rfl op_162 rfl rfl
theorem dX5_isLeastOfRing_17 : decode cX5_isLeastOfRing 17 = .ok (.iload_n 2, 1) := dc0 (j := 17) sX5_isLeastOfRing_0 rfl op_28
theorem dX5_isLeastOfRing_18 : decode cX5_isLeastOfRing 18 = .ok (.iload_n 1, 1) := dc0 (j := 18) sX5_isLeastOfRing_0 rfl op_27
theorem dX5_isLeastOfRing_19 : decode cX5_isLeastOfRing 19 = .ok (.if_icmp .le 16, 3) := dcTp (j := 19) (v := 16) (f := Instr.if_icmp .le) sX5_isLeastOfRing_0 rfl op_164 rfl rfl
theorem dX5_isLeastOfRing_22 : decode cX5_isLeastOfRing 22 = .ok (.aload_n 0, 1) := dc0 (j := 22) sX5_isLeastOfRing_0 rfl op_42
theorem dX5_isLeastOfRing_23 : decode cX5_isLeastOfRing 23 = .ok (.getfield 40, 3) := dcB (j := 23) (f := Instr.getfield) sX5_isLeastOfRing_0 rfl op_180 rfl
theorem dX5_isLeastOfRing_26 : decode cX5_isLeastOfRing 26 = .ok (.iload_n 2, 1) := dc0 (j := 26) sX5_isLeastOfRing_0 rfl op_28
theorem dX5_isLeastOfRing_27 : decode cX5_isLeastOfRing 27 = .ok (.iaload, 1) := dc0 (j := 27) sX5_isLeastOfRing_0 rfl op_46
theorem dX5_isLeastOfRing_28 : decode cX5_isLeastOfRing 28 = .ok (.istore_n 2, 1) := dc0 (j := 28) sX5_isLeastOfRing_0 rfl op_61
theorem dX5_isLeastOfRing_29 : decode cX5_isLeastOfRing 29 = .ok (.iinc 3 1, 3) := dcIp (j := 29) sX5_isLeastOfRing_0 rfl op_132 rfl
theorem dX5_isLeastOfRing_32 : decode cX5_isLeastOfRing 32 = .ok (.goto (-23), 3) := dcTn (j := 32) (v := 23) (f := Instr.goto) sX5_isLeastOfRing_0 rfl op_167 rfl rfl rfl
theorem dX5_isLeastOfRing_35 : decode cX5_isLeastOfRing 35 = .ok (.iload_n 2, 1) := dc0 (j := 35) sX5_isLeastOfRing_0 rfl op_28
theorem sX5_isLeastOfRing_36 : sgm cX5_isLeastOfRing 36 [27, 160, 0, 7, 4, 167, 0, 4, 3, 172] := by decide +kernel
theorem dX5_isLeastOfRing_36 : decode cX5_isLeastOfRing 36 = .ok (.iload_n 1, 1) := dc0 (j := 0) sX5_isLeastOfRing_36 rfl op_27
theorem dX5_isLeastOfRing_37 : decode cX5_isLeastOfRing 37 = .ok (.if_icmp .ne 7, 3) := dcTp (j := 1) (v := 7) (f := Instr.if_icmp .ne) sX5_isLeastOfRing_36 rfl op_160 rfl rfl
theorem dX5_isLeastOfRing_40 : decode cX5_isLeastOfRing 40 = .ok (.iconst 1, 1) := dc0 (j := 4) sX5_isLeastOfRing_36 rfl op_4
theorem dX5_isLeastOfRing_41 : decode cX5_isLeastOfRing 41 = .ok (.goto 4, 3) := dcTp (j := 5) (v := 4) (f := Instr.goto) sX5_isLeastOfRing_36 rfl op_167 rfl rfl
theorem dX5_isLeastOfRing_44 : decode cX5_isLeastOfRing 44 = .ok (.iconst 0, 1) := dc0 (j := 8) sX5_isLeastOfRing_36 rfl op_3
theorem dX5_isLeastOfRing_45 : decode cX5_isLeastOfRing 45 = .ok (.ireturn, 1) := dc0 (j := 9) sX5_isLeastOfRing_36 rfl op_172
theorem sX5_payOf_0 : sgm cX5_payOf 0 [42, 27, 42, 27, 28, 182, 0, 110, 182, 0, 66, 153, 0, 7, 5, 167, 0, 4, 3, 62, 28, 27, 184, 0, 70, 153, 0, 9, 29, 4, 100, 167, 0, 4, 29, 172] := by decide +kernel
theorem dX5_payOf_0 : decode cX5_payOf 0 = .ok (.aload_n 0, 1) := dc0 (j := 0) sX5_payOf_0 rfl op_42
theorem dX5_payOf_1 : decode cX5_payOf 1 = .ok (.iload_n 1, 1) := dc0 (j := 1) sX5_payOf_0 rfl op_27
theorem dX5_payOf_2 : decode cX5_payOf 2 = .ok (.aload_n 0, 1) := dc0 (j := 2) sX5_payOf_0 rfl op_42
theorem dX5_payOf_3 : decode cX5_payOf 3 = .ok (.iload_n 1, 1) := dc0 (j := 3) sX5_payOf_0 rfl op_27
theorem dX5_payOf_4 : decode cX5_payOf 4 = .ok (.iload_n 2, 1) := dc0 (j := 4) sX5_payOf_0 rfl op_28
theorem dX5_payOf_5 : decode cX5_payOf 5 = .ok (.invokevirtual 110, 3) := dcB (j := 5) (f := Instr.invokevirtual) sX5_payOf_0 rfl op_182 rfl
theorem dX5_payOf_8 : decode cX5_payOf 8 = .ok (.invokevirtual 66, 3) := dcB (j := 8) (f := Instr.invokevirtual) sX5_payOf_0 rfl op_182 rfl
theorem dX5_payOf_11 : decode cX5_payOf 11 = .ok (.ifCond .eq 7, 3) := dcTp (j := 11) (v := 7) (f := Instr.ifCond .eq) sX5_payOf_0 rfl op_153 rfl rfl
theorem dX5_payOf_14 : decode cX5_payOf 14 = .ok (.iconst 2, 1) := dc0 (j := 14) sX5_payOf_0 rfl op_5
theorem dX5_payOf_15 : decode cX5_payOf 15 = .ok (.goto 4, 3) := dcTp (j := 15) (v := 4) (f := Instr.goto) sX5_payOf_0 rfl op_167 rfl rfl
theorem dX5_payOf_18 : decode cX5_payOf 18 = .ok (.iconst 0, 1) := dc0 (j := 18) sX5_payOf_0 rfl op_3
theorem dX5_payOf_19 : decode cX5_payOf 19 = .ok (.istore_n 3, 1) := dc0 (j := 19) sX5_payOf_0 rfl op_62
theorem dX5_payOf_20 : decode cX5_payOf 20 = .ok (.iload_n 2, 1) := dc0 (j := 20) sX5_payOf_0 rfl op_28
theorem dX5_payOf_21 : decode cX5_payOf 21 = .ok (.iload_n 1, 1) := dc0 (j := 21) sX5_payOf_0 rfl op_27
theorem dX5_payOf_22 : decode cX5_payOf 22 = .ok (.invokestatic 70, 3) := dcB (j := 22) (f := Instr.invokestatic) sX5_payOf_0 rfl op_184 rfl
theorem dX5_payOf_25 : decode cX5_payOf 25 = .ok (.ifCond .eq 9, 3) := dcTp (j := 25) (v := 9) (f := Instr.ifCond .eq) sX5_payOf_0 rfl op_153 rfl rfl
theorem dX5_payOf_28 : decode cX5_payOf 28 = .ok (.iload_n 3, 1) := dc0 (j := 28) sX5_payOf_0 rfl op_29
theorem dX5_payOf_29 : decode cX5_payOf 29 = .ok (.iconst 1, 1) := dc0 (j := 29) sX5_payOf_0 rfl op_4
theorem dX5_payOf_30 : decode cX5_payOf 30 = .ok (.isub, 1) := dc0 (j := 30) sX5_payOf_0 rfl op_100
theorem dX5_payOf_31 : decode cX5_payOf 31 = .ok (.goto 4, 3) := dcTp (j := 31) (v := 4) (f := Instr.goto) sX5_payOf_0 rfl op_167 rfl rfl
theorem dX5_payOf_34 : decode cX5_payOf 34 = .ok (.iload_n 3, 1) := dc0 (j := 34) sX5_payOf_0 rfl op_29
theorem dX5_payOf_35 : decode cX5_payOf 35 = .ok (.ireturn, 1) := dc0 (j := 35) sX5_payOf_0 rfl op_172
theorem sX5_payTogether_0 : sgm cX5_payTogether 0 [42, 27, 182, 0, 84, 27, 184, 0, 113, 116, 61, 3, 62, 29, 42, 180, 0, 46, 162, 0, 41, 28, 42, 29, 42, 180, 0, 22, 29, 46, 42, 180, 0, 43, 29, 46] := by decide +kernel
theorem dX5_payTogether_0 : decode cX5_payTogether 0 = .ok (.aload_n 0, 1) := dc0 (j := 0) sX5_payTogether_0 rfl op_42
theorem dX5_payTogether_1 : decode cX5_payTogether 1 = .ok (.iload_n 1, 1) := dc0 (j := 1) sX5_payTogether_0 rfl op_27
theorem dX5_payTogether_2 : decode cX5_payTogether 2 = .ok (.invokevirtual 84, 3) := dcB (j := 2) (f := Instr.invokevirtual) sX5_payTogether_0 rfl op_182 rfl
theorem dX5_payTogether_5 : decode cX5_payTogether 5 = .ok (.iload_n 1, 1) := dc0 (j := 5) sX5_payTogether_0 rfl op_27
theorem dX5_payTogether_6 : decode cX5_payTogether 6 = .ok (.invokestatic 113, 3) := dcB (j := 6) (f := Instr.invokestatic) sX5_payTogether_0 rfl op_184 rfl
theorem dX5_payTogether_9 : decode cX5_payTogether 9 = .ok (.ineg, 1) := dc0 (j := 9) sX5_payTogether_0 rfl op_116
theorem dX5_payTogether_10 : decode cX5_payTogether 10 = .ok (.istore_n 2, 1) := dc0 (j := 10) sX5_payTogether_0 rfl op_61
theorem dX5_payTogether_11 : decode cX5_payTogether 11 = .ok (.iconst 0, 1) := dc0 (j := 11) sX5_payTogether_0 rfl op_3
theorem dX5_payTogether_12 : decode cX5_payTogether 12 = .ok (.istore_n 3, 1) := dc0 (j := 12) sX5_payTogether_0 rfl op_62
theorem dX5_payTogether_13 : decode cX5_payTogether 13 = .ok (.iload_n 3, 1) := dc0 (j := 13) sX5_payTogether_0 rfl op_29
theorem dX5_payTogether_14 : decode cX5_payTogether 14 = .ok (.aload_n 0, 1) := dc0 (j := 14) sX5_payTogether_0 rfl op_42
theorem dX5_payTogether_15 : decode cX5_payTogether 15 = .ok (.getfield 46, 3) := dcB (j := 15) (f := Instr.getfield) sX5_payTogether_0 rfl op_180 rfl
theorem dX5_payTogether_18 : decode cX5_payTogether 18 = .ok (.if_icmp .ge 41, 3) := dcTp (j := 18) (v := 41) (f := Instr.if_icmp .ge) sX5_payTogether_0 rfl op_162 rfl rfl
theorem dX5_payTogether_21 : decode cX5_payTogether 21 = .ok (.iload_n 2, 1) := dc0 (j := 21) sX5_payTogether_0 rfl op_28
theorem dX5_payTogether_22 : decode cX5_payTogether 22 = .ok (.aload_n 0, 1) := dc0 (j := 22) sX5_payTogether_0 rfl op_42
theorem dX5_payTogether_23 : decode cX5_payTogether 23 = .ok (.iload_n 3, 1) := dc0 (j := 23) sX5_payTogether_0 rfl op_29
theorem dX5_payTogether_24 : decode cX5_payTogether 24 = .ok (.aload_n 0, 1) := dc0 (j := 24) sX5_payTogether_0 rfl op_42
theorem dX5_payTogether_25 : decode cX5_payTogether 25 = .ok (.getfield 22, 3) := dcB (j := 25) (f := Instr.getfield) sX5_payTogether_0 rfl op_180 rfl
theorem dX5_payTogether_28 : decode cX5_payTogether 28 = .ok (.iload_n 3, 1) := dc0 (j := 28) sX5_payTogether_0 rfl op_29
theorem dX5_payTogether_29 : decode cX5_payTogether 29 = .ok (.iaload, 1) := dc0 (j := 29) sX5_payTogether_0 rfl op_46
theorem dX5_payTogether_30 : decode cX5_payTogether 30 = .ok (.aload_n 0, 1) := dc0 (j := 30) sX5_payTogether_0 rfl op_42
theorem dX5_payTogether_31 : decode cX5_payTogether 31 = .ok (.getfield 43, 3) := dcB (j := 31) (f := Instr.getfield) sX5_payTogether_0 rfl op_180 rfl
theorem dX5_payTogether_34 : decode cX5_payTogether 34 = .ok (.iload_n 3, 1) := dc0 (j := 34) sX5_payTogether_0 rfl op_29
theorem dX5_payTogether_35 : decode cX5_payTogether 35 = .ok (.iaload, 1) := dc0 (j := 35) sX5_payTogether_0 rfl op_46
theorem sX5_payTogether_36 : sgm cX5_payTogether 36 [96, 184, 0, 77, 182, 0, 66, 153, 0, 7, 5, 167, 0, 4, 3, 96, 61, 132, 3, 1, 167, 255, 213, 28, 172] := by decide +kernel
theorem dX5_payTogether_36 : decode cX5_payTogether 36 = .ok (.iadd, 1) := dc0 (j := 0) sX5_payTogether_36 rfl op_96
theorem dX5_payTogether_37 : decode cX5_payTogether 37 = .ok (.invokestatic 77, 3) := dcB (j := 1) (f := Instr.invokestatic) sX5_payTogether_36 rfl op_184 rfl
theorem dX5_payTogether_40 : decode cX5_payTogether 40 = .ok (.invokevirtual 66, 3) := dcB (j := 4) (f := Instr.invokevirtual) sX5_payTogether_36 rfl op_182 rfl
theorem dX5_payTogether_43 : decode cX5_payTogether 43 = .ok (.ifCond .eq 7, 3) := dcTp (j := 7) (v := 7) (f := Instr.ifCond .eq) sX5_payTogether_36 rfl op_153 rfl rfl
theorem dX5_payTogether_46 : decode cX5_payTogether 46 = .ok (.iconst 2, 1) := dc0 (j := 10) sX5_payTogether_36 rfl op_5
theorem dX5_payTogether_47 : decode cX5_payTogether 47 = .ok (.goto 4, 3) := dcTp (j := 11) (v := 4) (f := Instr.goto) sX5_payTogether_36 rfl op_167 rfl rfl
theorem dX5_payTogether_50 : decode cX5_payTogether 50 = .ok (.iconst 0, 1) := dc0 (j := 14) sX5_payTogether_36 rfl op_3
theorem dX5_payTogether_51 : decode cX5_payTogether 51 = .ok (.iadd, 1) := dc0 (j := 15) sX5_payTogether_36 rfl op_96
theorem dX5_payTogether_52 : decode cX5_payTogether 52 = .ok (.istore_n 2, 1) := dc0 (j := 16) sX5_payTogether_36 rfl op_61
theorem dX5_payTogether_53 : decode cX5_payTogether 53 = .ok (.iinc 3 1, 3) := dcIp (j := 17) sX5_payTogether_36 rfl op_132 rfl
theorem dX5_payTogether_56 : decode cX5_payTogether 56 = .ok (.goto (-43), 3) := dcTn (j := 20) (v := 43) (f := Instr.goto) sX5_payTogether_36 rfl op_167 rfl rfl rfl
theorem dX5_payTogether_59 : decode cX5_payTogether 59 = .ok (.iload_n 2, 1) := dc0 (j := 23) sX5_payTogether_36 rfl op_28
theorem dX5_payTogether_60 : decode cX5_payTogether 60 = .ok (.ireturn, 1) := dc0 (j := 24) sX5_payTogether_36 rfl op_172
theorem sX5_isSelfish_0 : sgm cX5_isSelfish 0 [3, 61, 28, 42, 180, 0, 46, 162, 0, 30, 42, 28, 27, 4, 28, 120, 130, 182, 0, 118, 42, 28, 27, 182, 0, 118, 164, 0, 5, 3, 172, 132, 2, 1] := by decide +kernel
theorem dX5_isSelfish_0 : decode cX5_isSelfish 0 = .ok (.iconst 0, 1) := dc0 (j := 0) sX5_isSelfish_0 rfl op_3
theorem dX5_isSelfish_1 : decode cX5_isSelfish 1 = .ok (.istore_n 2, 1) := dc0 (j := 1) sX5_isSelfish_0 rfl op_61
theorem dX5_isSelfish_2 : decode cX5_isSelfish 2 = .ok (.iload_n 2, 1) := dc0 (j := 2) sX5_isSelfish_0 rfl op_28
theorem dX5_isSelfish_3 : decode cX5_isSelfish 3 = .ok (.aload_n 0, 1) := dc0 (j := 3) sX5_isSelfish_0 rfl op_42
theorem dX5_isSelfish_4 : decode cX5_isSelfish 4 = .ok (.getfield 46, 3) := dcB (j := 4) (f := Instr.getfield) sX5_isSelfish_0 rfl op_180 rfl
theorem dX5_isSelfish_7 : decode cX5_isSelfish 7 = .ok (.if_icmp .ge 30, 3) := dcTp (j := 7) (v := 30) (f := Instr.if_icmp .ge) sX5_isSelfish_0 rfl op_162 rfl rfl
theorem dX5_isSelfish_10 : decode cX5_isSelfish 10 = .ok (.aload_n 0, 1) := dc0 (j := 10) sX5_isSelfish_0 rfl op_42
theorem dX5_isSelfish_11 : decode cX5_isSelfish 11 = .ok (.iload_n 2, 1) := dc0 (j := 11) sX5_isSelfish_0 rfl op_28
theorem dX5_isSelfish_12 : decode cX5_isSelfish 12 = .ok (.iload_n 1, 1) := dc0 (j := 12) sX5_isSelfish_0 rfl op_27
theorem dX5_isSelfish_13 : decode cX5_isSelfish 13 = .ok (.iconst 1, 1) := dc0 (j := 13) sX5_isSelfish_0 rfl op_4
theorem dX5_isSelfish_14 : decode cX5_isSelfish 14 = .ok (.iload_n 2, 1) := dc0 (j := 14) sX5_isSelfish_0 rfl op_28
theorem dX5_isSelfish_15 : decode cX5_isSelfish 15 = .ok (.ishl, 1) := dc0 (j := 15) sX5_isSelfish_0 rfl op_120
theorem dX5_isSelfish_16 : decode cX5_isSelfish 16 = .ok (.ixor, 1) := dc0 (j := 16) sX5_isSelfish_0 rfl op_130
theorem dX5_isSelfish_17 : decode cX5_isSelfish 17 = .ok (.invokevirtual 118, 3) := dcB (j := 17) (f := Instr.invokevirtual) sX5_isSelfish_0 rfl op_182 rfl
theorem dX5_isSelfish_20 : decode cX5_isSelfish 20 = .ok (.aload_n 0, 1) := dc0 (j := 20) sX5_isSelfish_0 rfl op_42
theorem dX5_isSelfish_21 : decode cX5_isSelfish 21 = .ok (.iload_n 2, 1) := dc0 (j := 21) sX5_isSelfish_0 rfl op_28
theorem dX5_isSelfish_22 : decode cX5_isSelfish 22 = .ok (.iload_n 1, 1) := dc0 (j := 22) sX5_isSelfish_0 rfl op_27
theorem dX5_isSelfish_23 : decode cX5_isSelfish 23 = .ok (.invokevirtual 118, 3) := dcB (j := 23) (f := Instr.invokevirtual) sX5_isSelfish_0 rfl op_182 rfl
theorem dX5_isSelfish_26 : decode cX5_isSelfish 26 = .ok (.if_icmp .le 5, 3) := dcTp (j := 26) (v := 5) (f := Instr.if_icmp .le) sX5_isSelfish_0 rfl op_164 rfl rfl
theorem dX5_isSelfish_29 : decode cX5_isSelfish 29 = .ok (.iconst 0, 1) := dc0 (j := 29) sX5_isSelfish_0 rfl op_3
theorem dX5_isSelfish_30 : decode cX5_isSelfish 30 = .ok (.ireturn, 1) := dc0 (j := 30) sX5_isSelfish_0 rfl op_172
theorem dX5_isSelfish_31 : decode cX5_isSelfish 31 = .ok (.iinc 2 1, 3) := dcIp (j := 31) sX5_isSelfish_0 rfl op_132 rfl
theorem sX5_isSelfish_34 : sgm cX5_isSelfish 34 [167, 255, 224, 4, 172] := by decide +kernel
theorem dX5_isSelfish_34 : decode cX5_isSelfish 34 = .ok (.goto (-32), 3) := dcTn (j := 0) (v := 32) (f := Instr.goto) sX5_isSelfish_34 rfl op_167 rfl rfl rfl
theorem dX5_isSelfish_37 : decode cX5_isSelfish 37 = .ok (.iconst 1, 1) := dc0 (j := 3) sX5_isSelfish_34 rfl op_4
theorem dX5_isSelfish_38 : decode cX5_isSelfish 38 = .ok (.ireturn, 1) := dc0 (j := 4) sX5_isSelfish_34 rfl op_172
theorem sX5_comesAs_0 : sgm cX5_comesAs 0 [3, 62, 29, 42, 180, 0, 46, 162, 0, 28, 42, 29, 28, 182, 0, 110, 133, 43, 180, 0, 121, 29, 47, 148, 153, 0, 5, 3, 172, 132, 3, 1, 167, 255, 226, 4] := by decide +kernel
theorem dX5_comesAs_0 : decode cX5_comesAs 0 = .ok (.iconst 0, 1) := dc0 (j := 0) sX5_comesAs_0 rfl op_3
theorem dX5_comesAs_1 : decode cX5_comesAs 1 = .ok (.istore_n 3, 1) := dc0 (j := 1) sX5_comesAs_0 rfl op_62
theorem dX5_comesAs_2 : decode cX5_comesAs 2 = .ok (.iload_n 3, 1) := dc0 (j := 2) sX5_comesAs_0 rfl op_29
theorem dX5_comesAs_3 : decode cX5_comesAs 3 = .ok (.aload_n 0, 1) := dc0 (j := 3) sX5_comesAs_0 rfl op_42
theorem dX5_comesAs_4 : decode cX5_comesAs 4 = .ok (.getfield 46, 3) := dcB (j := 4) (f := Instr.getfield) sX5_comesAs_0 rfl op_180 rfl
theorem dX5_comesAs_7 : decode cX5_comesAs 7 = .ok (.if_icmp .ge 28, 3) := dcTp (j := 7) (v := 28) (f := Instr.if_icmp .ge) sX5_comesAs_0 rfl op_162 rfl rfl
theorem dX5_comesAs_10 : decode cX5_comesAs 10 = .ok (.aload_n 0, 1) := dc0 (j := 10) sX5_comesAs_0 rfl op_42
theorem dX5_comesAs_11 : decode cX5_comesAs 11 = .ok (.iload_n 3, 1) := dc0 (j := 11) sX5_comesAs_0 rfl op_29
theorem dX5_comesAs_12 : decode cX5_comesAs 12 = .ok (.iload_n 2, 1) := dc0 (j := 12) sX5_comesAs_0 rfl op_28
theorem dX5_comesAs_13 : decode cX5_comesAs 13 = .ok (.invokevirtual 110, 3) := dcB (j := 13) (f := Instr.invokevirtual) sX5_comesAs_0 rfl op_182 rfl
theorem dX5_comesAs_16 : decode cX5_comesAs 16 = .ok (.i2l, 1) := dc0 (j := 16) sX5_comesAs_0 rfl op_133
theorem dX5_comesAs_17 : decode cX5_comesAs 17 = .ok (.aload_n 1, 1) := dc0 (j := 17) sX5_comesAs_0 rfl op_43
theorem dX5_comesAs_18 : decode cX5_comesAs 18 = .ok (.getfield 121, 3) := dcB (j := 18) (f := Instr.getfield) sX5_comesAs_0 rfl op_180 rfl
theorem dX5_comesAs_21 : decode cX5_comesAs 21 = .ok (.iload_n 3, 1) := dc0 (j := 21) sX5_comesAs_0 rfl op_29
theorem dX5_comesAs_22 : decode cX5_comesAs 22 = .ok (.laload, 1) := dc0 (j := 22) sX5_comesAs_0 rfl op_47
theorem dX5_comesAs_23 : decode cX5_comesAs 23 = .ok (.lcmp, 1) := dc0 (j := 23) sX5_comesAs_0 rfl op_148
theorem dX5_comesAs_24 : decode cX5_comesAs 24 = .ok (.ifCond .eq 5, 3) := dcTp (j := 24) (v := 5) (f := Instr.ifCond .eq) sX5_comesAs_0 rfl op_153 rfl rfl
theorem dX5_comesAs_27 : decode cX5_comesAs 27 = .ok (.iconst 0, 1) := dc0 (j := 27) sX5_comesAs_0 rfl op_3
theorem dX5_comesAs_28 : decode cX5_comesAs 28 = .ok (.ireturn, 1) := dc0 (j := 28) sX5_comesAs_0 rfl op_172
theorem dX5_comesAs_29 : decode cX5_comesAs 29 = .ok (.iinc 3 1, 3) := dcIp (j := 29) sX5_comesAs_0 rfl op_132 rfl
theorem dX5_comesAs_32 : decode cX5_comesAs 32 = .ok (.goto (-30), 3) := dcTn (j := 32) (v := 30) (f := Instr.goto) sX5_comesAs_0 rfl op_167 rfl rfl rfl
theorem dX5_comesAs_35 : decode cX5_comesAs 35 = .ok (.iconst 1, 1) := dc0 (j := 35) sX5_comesAs_0 rfl op_4
theorem sX5_comesAs_36 : sgm cX5_comesAs 36 [172] := by decide +kernel
theorem dX5_comesAs_36 : decode cX5_comesAs 36 = .ok (.ireturn, 1) := dc0 (j := 0) sX5_comesAs_36 rfl op_172
theorem sX6_init_0 : sgm cX6_init 0 [42, 183, 0, 3, 177] := by decide +kernel
theorem dX6_init_0 : decode cX6_init 0 = .ok (.aload_n 0, 1) := dc0 (j := 0) sX6_init_0 rfl op_42
theorem dX6_init_1 : decode cX6_init 1 = .ok (.invokespecial 3, 3) := dcB (j := 1) (f := Instr.invokespecial) sX6_init_0 rfl op_183 rfl
theorem dX6_init_4 : decode cX6_init 4 = .ok (.return_, 1) := dc0 (j := 4) sX6_init_0 rfl op_177
theorem sX6_passOn_0 : sgm cX6_passOn 0 [42, 3, 181, 0, 9, 42, 3, 181, 0, 15, 42, 3, 181, 0, 18, 3, 62, 29, 44, 180, 0, 21, 162, 0, 68, 42, 43, 44, 29, 184, 0, 26, 181, 0, 15, 42] := by decide +kernel
theorem dX6_passOn_0 : decode cX6_passOn 0 = .ok (.aload_n 0, 1) := dc0 (j := 0) sX6_passOn_0 rfl op_42
theorem dX6_passOn_1 : decode cX6_passOn 1 = .ok (.iconst 0, 1) := dc0 (j := 1) sX6_passOn_0 rfl op_3
theorem dX6_passOn_2 : decode cX6_passOn 2 = .ok (.putfield 9, 3) := dcB (j := 2) (f := Instr.putfield) sX6_passOn_0 rfl op_181 rfl
theorem dX6_passOn_5 : decode cX6_passOn 5 = .ok (.aload_n 0, 1) := dc0 (j := 5) sX6_passOn_0 rfl op_42
theorem dX6_passOn_6 : decode cX6_passOn 6 = .ok (.iconst 0, 1) := dc0 (j := 6) sX6_passOn_0 rfl op_3
theorem dX6_passOn_7 : decode cX6_passOn 7 = .ok (.putfield 15, 3) := dcB (j := 7) (f := Instr.putfield) sX6_passOn_0 rfl op_181 rfl
theorem dX6_passOn_10 : decode cX6_passOn 10 = .ok (.aload_n 0, 1) := dc0 (j := 10) sX6_passOn_0 rfl op_42
theorem dX6_passOn_11 : decode cX6_passOn 11 = .ok (.iconst 0, 1) := dc0 (j := 11) sX6_passOn_0 rfl op_3
theorem dX6_passOn_12 : decode cX6_passOn 12 = .ok (.putfield 18, 3) := dcB (j := 12) (f := Instr.putfield) sX6_passOn_0 rfl op_181 rfl
theorem dX6_passOn_15 : decode cX6_passOn 15 = .ok (.iconst 0, 1) := dc0 (j := 15) sX6_passOn_0 rfl op_3
theorem dX6_passOn_16 : decode cX6_passOn 16 = .ok (.istore_n 3, 1) := dc0 (j := 16) sX6_passOn_0 rfl op_62
theorem dX6_passOn_17 : decode cX6_passOn 17 = .ok (.iload_n 3, 1) := dc0 (j := 17) sX6_passOn_0 rfl op_29
theorem dX6_passOn_18 : decode cX6_passOn 18 = .ok (.aload_n 2, 1) := dc0 (j := 18) sX6_passOn_0 rfl op_44
theorem dX6_passOn_19 : decode cX6_passOn 19 = .ok (.getfield 21, 3) := dcB (j := 19) (f := Instr.getfield) sX6_passOn_0 rfl op_180 rfl
theorem dX6_passOn_22 : decode cX6_passOn 22 = .ok (.if_icmp .ge 68, 3) := dcTp (j := 22) (v := 68) (f := Instr.if_icmp .ge) sX6_passOn_0 rfl op_162 rfl rfl
theorem dX6_passOn_25 : decode cX6_passOn 25 = .ok (.aload_n 0, 1) := dc0 (j := 25) sX6_passOn_0 rfl op_42
theorem dX6_passOn_26 : decode cX6_passOn 26 = .ok (.aload_n 1, 1) := dc0 (j := 26) sX6_passOn_0 rfl op_43
theorem dX6_passOn_27 : decode cX6_passOn 27 = .ok (.aload_n 2, 1) := dc0 (j := 27) sX6_passOn_0 rfl op_44
theorem dX6_passOn_28 : decode cX6_passOn 28 = .ok (.iload_n 3, 1) := dc0 (j := 28) sX6_passOn_0 rfl op_29
theorem dX6_passOn_29 : decode cX6_passOn 29 = .ok (.invokestatic 26, 3) := dcB (j := 29) (f := Instr.invokestatic) sX6_passOn_0 rfl op_184 rfl
theorem dX6_passOn_32 : decode cX6_passOn 32 = .ok (.putfield 15, 3) := dcB (j := 32) (f := Instr.putfield) sX6_passOn_0 rfl op_181 rfl
theorem dX6_passOn_35 : decode cX6_passOn 35 = .ok (.aload_n 0, 1) := dc0 (j := 35) sX6_passOn_0 rfl op_42
theorem sX6_passOn_36 : sgm cX6_passOn 36 [180, 0, 15, 153, 0, 4, 177, 42, 89, 180, 0, 18, 43, 44, 180, 0, 30, 29, 47, 136, 44, 180, 0, 30, 29, 4, 96, 47, 136, 2, 3, 182, 0, 34, 96] := by decide +kernel
theorem dX6_passOn_36 : decode cX6_passOn 36 = .ok (.getfield 15, 3) := dcB (j := 0) (f := Instr.getfield) sX6_passOn_36 rfl op_180 rfl
theorem dX6_passOn_39 : decode cX6_passOn 39 = .ok (.ifCond .eq 4, 3) := dcTp (j := 3) (v := 4) (f := Instr.ifCond .eq) sX6_passOn_36 rfl op_153 rfl rfl
theorem dX6_passOn_42 : decode cX6_passOn 42 = .ok (.return_, 1) := dc0 (j := 6) sX6_passOn_36 rfl op_177
theorem dX6_passOn_43 : decode cX6_passOn 43 = .ok (.aload_n 0, 1) := dc0 (j := 7) sX6_passOn_36 rfl op_42
theorem dX6_passOn_44 : decode cX6_passOn 44 = .ok (.dup, 1) := dc0 (j := 8) sX6_passOn_36 rfl op_89
theorem dX6_passOn_45 : decode cX6_passOn 45 = .ok (.getfield 18, 3) := dcB (j := 9) (f := Instr.getfield) sX6_passOn_36 rfl op_180 rfl
theorem dX6_passOn_48 : decode cX6_passOn 48 = .ok (.aload_n 1, 1) := dc0 (j := 12) sX6_passOn_36 rfl op_43
theorem dX6_passOn_49 : decode cX6_passOn 49 = .ok (.aload_n 2, 1) := dc0 (j := 13) sX6_passOn_36 rfl op_44
theorem dX6_passOn_50 : decode cX6_passOn 50 = .ok (.getfield 30, 3) := dcB (j := 14) (f := Instr.getfield) sX6_passOn_36 rfl op_180 rfl
theorem dX6_passOn_53 : decode cX6_passOn 53 = .ok (.iload_n 3, 1) := dc0 (j := 17) sX6_passOn_36 rfl op_29
theorem dX6_passOn_54 : decode cX6_passOn 54 = .ok (.laload, 1) := dc0 (j := 18) sX6_passOn_36 rfl op_47
theorem dX6_passOn_55 : decode cX6_passOn 55 = .ok (.l2i, 1) := dc0 (j := 19) sX6_passOn_36 rfl op_136
theorem dX6_passOn_56 : decode cX6_passOn 56 = .ok (.aload_n 2, 1) := dc0 (j := 20) sX6_passOn_36 rfl op_44
theorem dX6_passOn_57 : decode cX6_passOn 57 = .ok (.getfield 30, 3) := dcB (j := 21) (f := Instr.getfield) sX6_passOn_36 rfl op_180 rfl
theorem dX6_passOn_60 : decode cX6_passOn 60 = .ok (.iload_n 3, 1) := dc0 (j := 24) sX6_passOn_36 rfl op_29
theorem dX6_passOn_61 : decode cX6_passOn 61 = .ok (.iconst 1, 1) := dc0 (j := 25) sX6_passOn_36 rfl op_4
theorem dX6_passOn_62 : decode cX6_passOn 62 = .ok (.iadd, 1) := dc0 (j := 26) sX6_passOn_36 rfl op_96
theorem dX6_passOn_63 : decode cX6_passOn 63 = .ok (.laload, 1) := dc0 (j := 27) sX6_passOn_36 rfl op_47
theorem dX6_passOn_64 : decode cX6_passOn 64 = .ok (.l2i, 1) := dc0 (j := 28) sX6_passOn_36 rfl op_136
theorem dX6_passOn_65 : decode cX6_passOn 65 = .ok (.iconst (-1), 1) := dc0 (j := 29) sX6_passOn_36 rfl op_2
theorem dX6_passOn_66 : decode cX6_passOn 66 = .ok (.iconst 0, 1) := dc0 (j := 30) sX6_passOn_36 rfl op_3
theorem dX6_passOn_67 : decode cX6_passOn 67 = .ok (.invokevirtual 34, 3) := dcB (j := 31) (f := Instr.invokevirtual) sX6_passOn_36 rfl op_182 rfl
theorem dX6_passOn_70 : decode cX6_passOn 70 = .ok (.iadd, 1) := dc0 (j := 34) sX6_passOn_36 rfl op_96
theorem sX6_passOn_71 : sgm cX6_passOn 71 [181, 0, 18, 42, 89, 180, 0, 9, 4, 96, 181, 0, 9, 132, 3, 2, 167, 255, 186, 177] := by decide +kernel
theorem dX6_passOn_71 : decode cX6_passOn 71 = .ok (.putfield 18, 3) := dcB (j := 0) (f := Instr.putfield) sX6_passOn_71 rfl op_181 rfl
theorem dX6_passOn_74 : decode cX6_passOn 74 = .ok (.aload_n 0, 1) := dc0 (j := 3) sX6_passOn_71 rfl op_42
theorem dX6_passOn_75 : decode cX6_passOn 75 = .ok (.dup, 1) := dc0 (j := 4) sX6_passOn_71 rfl op_89
theorem dX6_passOn_76 : decode cX6_passOn 76 = .ok (.getfield 9, 3) := dcB (j := 5) (f := Instr.getfield) sX6_passOn_71 rfl op_180 rfl
theorem dX6_passOn_79 : decode cX6_passOn 79 = .ok (.iconst 1, 1) := dc0 (j := 8) sX6_passOn_71 rfl op_4
theorem dX6_passOn_80 : decode cX6_passOn 80 = .ok (.iadd, 1) := dc0 (j := 9) sX6_passOn_71 rfl op_96
theorem dX6_passOn_81 : decode cX6_passOn 81 = .ok (.putfield 9, 3) := dcB (j := 10) (f := Instr.putfield) sX6_passOn_71 rfl op_181 rfl
theorem dX6_passOn_84 : decode cX6_passOn 84 = .ok (.iinc 3 2, 3) := dcIp (j := 13) sX6_passOn_71 rfl op_132 rfl
