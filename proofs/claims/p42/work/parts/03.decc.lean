theorem dX8_street_9 : decode cX8_street 9 = .ok (.getfield 64, 3) := dcB (j := 9) (f := Instr.getfield) sX8_street_0 rfl op_180 rfl
theorem dX8_street_12 : decode cX8_street 12 = .ok (.i2l, 1) := dc0 (j := 12) sX8_street_0 rfl op_133
theorem dX8_street_13 : decode cX8_street 13 = .ok (.invokestatic 124, 3) := dcB (j := 13) (f := Instr.invokestatic) sX8_street_0 rfl op_184 rfl
theorem dX8_street_16 : decode cX8_street 16 = .ok (.ifCond .ne 6, 3) := dcTp (j := 16) (v := 6) (f := Instr.ifCond .ne) sX8_street_0 rfl op_154 rfl rfl
theorem dX8_street_19 : decode cX8_street 19 = .ok (.bipush (-3), 2) := dcSn (j := 19) (v := 3) (f := Instr.bipush) sX8_street_0 rfl op_16 rfl rfl rfl
theorem dX8_street_21 : decode cX8_street 21 = .ok (.ireturn, 1) := dc0 (j := 21) sX8_street_0 rfl op_172
theorem dX8_street_22 : decode cX8_street 22 = .ok (.aload_n 0, 1) := dc0 (j := 22) sX8_street_0 rfl op_42
theorem dX8_street_23 : decode cX8_street 23 = .ok (.iload_n 1, 1) := dc0 (j := 23) sX8_street_0 rfl op_27
theorem dX8_street_24 : decode cX8_street 24 = .ok (.putfield 67, 3) := dcB (j := 24) (f := Instr.putfield) sX8_street_0 rfl op_181 rfl
theorem dX8_street_27 : decode cX8_street 27 = .ok (.aload_n 0, 1) := dc0 (j := 27) sX8_street_0 rfl op_42
theorem dX8_street_28 : decode cX8_street 28 = .ok (.iconst 0, 1) := dc0 (j := 28) sX8_street_0 rfl op_3
theorem dX8_street_29 : decode cX8_street 29 = .ok (.putfield 64, 3) := dcB (j := 29) (f := Instr.putfield) sX8_street_0 rfl op_181 rfl
theorem dX8_street_32 : decode cX8_street 32 = .ok (.aload_n 0, 1) := dc0 (j := 32) sX8_street_0 rfl op_42
theorem dX8_street_33 : decode cX8_street 33 = .ok (.iconst 0, 1) := dc0 (j := 33) sX8_street_0 rfl op_3
theorem sX8_street_34 : sgm cX8_street 34 [181, 0, 85, 42, 3, 181, 0, 108, 3, 61, 28, 16, 94, 162, 0, 26, 42, 180, 0, 24, 28, 28, 5, 160, 0, 8, 16, 20, 167, 0, 4, 3, 79, 132, 2, 1] := by decide +kernel
theorem dX8_street_34 : decode cX8_street 34 = .ok (.putfield 85, 3) := dcB (j := 0) (f := Instr.putfield) sX8_street_34 rfl op_181 rfl
theorem dX8_street_37 : decode cX8_street 37 = .ok (.aload_n 0, 1) := dc0 (j := 3) sX8_street_34 rfl op_42
theorem dX8_street_38 : decode cX8_street 38 = .ok (.iconst 0, 1) := dc0 (j := 4) sX8_street_34 rfl op_3
theorem dX8_street_39 : decode cX8_street 39 = .ok (.putfield 108, 3) := dcB (j := 5) (f := Instr.putfield) sX8_street_34 rfl op_181 rfl
theorem dX8_street_42 : decode cX8_street 42 = .ok (.iconst 0, 1) := dc0 (j := 8) sX8_street_34 rfl op_3
theorem dX8_street_43 : decode cX8_street 43 = .ok (.istore_n 2, 1) := dc0 (j := 9) sX8_street_34 rfl op_61
theorem dX8_street_44 : decode cX8_street 44 = .ok (.iload_n 2, 1) := dc0 (j := 10) sX8_street_34 rfl op_28
theorem dX8_street_45 : decode cX8_street 45 = .ok (.bipush 94, 2) := dcSp (j := 11) (a := 94) (f := Instr.bipush) sX8_street_34 rfl op_16 rfl
theorem dX8_street_47 : decode cX8_street 47 = .ok (.if_icmp .ge 26, 3) := dcTp (j := 13) (v := 26) (f := Instr.if_icmp .ge) sX8_street_34 rfl op_162 rfl rfl
theorem dX8_street_50 : decode cX8_street 50 = .ok (.aload_n 0, 1) := dc0 (j := 16) sX8_street_34 rfl op_42
theorem dX8_street_51 : decode cX8_street 51 = .ok (.getfield 24, 3) := dcB (j := 17) (f := Instr.getfield) sX8_street_34 rfl op_180 rfl
theorem dX8_street_54 : decode cX8_street 54 = .ok (.iload_n 2, 1) := dc0 (j := 20) sX8_street_34 rfl op_28
theorem dX8_street_55 : decode cX8_street 55 = .ok (.iload_n 2, 1) := dc0 (j := 21) sX8_street_34 rfl op_28
theorem dX8_street_56 : decode cX8_street 56 = .ok (.iconst 2, 1) := dc0 (j := 22) sX8_street_34 rfl op_5
theorem dX8_street_57 : decode cX8_street 57 = .ok (.if_icmp .ne 8, 3) := dcTp (j := 23) (v := 8) (f := Instr.if_icmp .ne) sX8_street_34 rfl op_160 rfl rfl
theorem dX8_street_60 : decode cX8_street 60 = .ok (.bipush 20, 2) := dcSp (j := 26) (a := 20) (f := Instr.bipush) sX8_street_34 rfl op_16 rfl
theorem dX8_street_62 : decode cX8_street 62 = .ok (.goto 4, 3) := dcTp (j := 28) (v := 4) (f := Instr.goto) sX8_street_34 rfl op_167 rfl rfl
theorem dX8_street_65 : decode cX8_street 65 = .ok (.iconst 0, 1) := dc0 (j := 31) sX8_street_34 rfl op_3
theorem dX8_street_66 : decode cX8_street 66 = .ok (.iastore, 1) := dc0 (j := 32) sX8_street_34 rfl op_79
theorem dX8_street_67 : decode cX8_street 67 = .ok (.iinc 2 1, 3) := dcIp (j := 33) sX8_street_34 rfl op_132 rfl
theorem sX8_street_70 : sgm cX8_street 70 [167, 255, 230, 42, 182, 0, 117, 42, 180, 0, 108, 154, 0, 100, 42, 180, 0, 92, 16, 11, 159, 0, 91, 42, 3, 182, 0, 114, 153, 0, 10, 42, 182, 0, 139] := by decide +kernel
theorem dX8_street_70 : decode cX8_street 70 = .ok (.goto (-26), 3) := dcTn (j := 0) (v := 26) (f := Instr.goto) sX8_street_70 rfl op_167 rfl rfl rfl
theorem dX8_street_73 : decode cX8_street 73 = .ok (.aload_n 0, 1) := dc0 (j := 3) sX8_street_70 rfl op_42
theorem dX8_street_74 : decode cX8_street 74 = .ok (.invokevirtual 117, 3) := dcB (j := 4) (f := Instr.invokevirtual) sX8_street_70 rfl op_182 rfl
theorem dX8_street_77 : decode cX8_street 77 = .ok (.aload_n 0, 1) := dc0 (j := 7) sX8_street_70 rfl op_42
theorem dX8_street_78 : decode cX8_street 78 = .ok (.getfield 108, 3) := dcB (j := 8) (f := Instr.getfield) sX8_street_70 rfl op_180 rfl
theorem dX8_street_81 : decode cX8_street 81 = .ok (.ifCond .ne 100, 3) := dcTp (j := 11) (v := 100) (f := Instr.ifCond .ne) sX8_street_70 rfl op_154 rfl rfl
theorem dX8_street_84 : decode cX8_street 84 = .ok (.aload_n 0, 1) := dc0 (j := 14) sX8_street_70 rfl op_42
theorem dX8_street_85 : decode cX8_street 85 = .ok (.getfield 92, 3) := dcB (j := 15) (f := Instr.getfield) sX8_street_70 rfl op_180 rfl
theorem dX8_street_88 : decode cX8_street 88 = .ok (.bipush 11, 2) := dcSp (j := 18) (a := 11) (f := Instr.bipush) sX8_street_70 rfl op_16 rfl
theorem dX8_street_90 : decode cX8_street 90 = .ok (.if_icmp .eq 91, 3) := dcTp (j := 20) (v := 91) (f := Instr.if_icmp .eq) sX8_street_70 rfl op_159 rfl rfl
theorem dX8_street_93 : decode cX8_street 93 = .ok (.aload_n 0, 1) := dc0 (j := 23) sX8_street_70 rfl op_42
theorem dX8_street_94 : decode cX8_street 94 = .ok (.iconst 0, 1) := dc0 (j := 24) sX8_street_70 rfl op_3
theorem dX8_street_95 : decode cX8_street 95 = .ok (.invokevirtual 114, 3) := dcB (j := 25) (f := Instr.invokevirtual) sX8_street_70 rfl op_182 rfl
theorem dX8_street_98 : decode cX8_street 98 = .ok (.ifCond .eq 10, 3) := dcTp (j := 28) (v := 10) (f := Instr.ifCond .eq) sX8_street_70 rfl op_153 rfl rfl
theorem dX8_street_101 : decode cX8_street 101 = .ok (.aload_n 0, 1) := dc0 (j := 31) sX8_street_70 rfl op_42
theorem dX8_street_102 : decode cX8_street 102 = .ok (.invokevirtual 139, 3) := dcB (j := 32) (f := Instr.invokevirtual) sX8_street_70 rfl op_182 rfl
theorem sX8_street_105 : sgm cX8_street 105 [167, 0, 49, 42, 16, 6, 182, 0, 128, 153, 0, 10, 42, 182, 0, 142, 167, 0, 33, 42, 16, 7, 182, 0, 128, 153, 0, 19, 42, 180, 0, 24, 5, 42, 3] := by decide +kernel
theorem dX8_street_105 : decode cX8_street 105 = .ok (.goto 49, 3) := dcTp (j := 0) (v := 49) (f := Instr.goto) sX8_street_105 rfl op_167 rfl rfl
theorem dX8_street_108 : decode cX8_street 108 = .ok (.aload_n 0, 1) := dc0 (j := 3) sX8_street_105 rfl op_42
theorem dX8_street_109 : decode cX8_street 109 = .ok (.bipush 6, 2) := dcSp (j := 4) (a := 6) (f := Instr.bipush) sX8_street_105 rfl op_16 rfl
theorem dX8_street_111 : decode cX8_street 111 = .ok (.invokevirtual 128, 3) := dcB (j := 6) (f := Instr.invokevirtual) sX8_street_105 rfl op_182 rfl
theorem dX8_street_114 : decode cX8_street 114 = .ok (.ifCond .eq 10, 3) := dcTp (j := 9) (v := 10) (f := Instr.ifCond .eq) sX8_street_105 rfl op_153 rfl rfl
theorem dX8_street_117 : decode cX8_street 117 = .ok (.aload_n 0, 1) := dc0 (j := 12) sX8_street_105 rfl op_42
theorem dX8_street_118 : decode cX8_street 118 = .ok (.invokevirtual 142, 3) := dcB (j := 13) (f := Instr.invokevirtual) sX8_street_105 rfl op_182 rfl
theorem dX8_street_121 : decode cX8_street 121 = .ok (.goto 33, 3) := dcTp (j := 16) (v := 33) (f := Instr.goto) sX8_street_105 rfl op_167 rfl rfl
theorem dX8_street_124 : decode cX8_street 124 = .ok (.aload_n 0, 1) := dc0 (j := 19) sX8_street_105 rfl op_42
theorem dX8_street_125 : decode cX8_street 125 = .ok (.bipush 7, 2) := dcSp (j := 20) (a := 7) (f := Instr.bipush) sX8_street_105 rfl op_16 rfl
theorem dX8_street_127 : decode cX8_street 127 = .ok (.invokevirtual 128, 3) := dcB (j := 22) (f := Instr.invokevirtual) sX8_street_105 rfl op_182 rfl
theorem dX8_street_130 : decode cX8_street 130 = .ok (.ifCond .eq 19, 3) := dcTp (j := 25) (v := 19) (f := Instr.ifCond .eq) sX8_street_105 rfl op_153 rfl rfl
theorem dX8_street_133 : decode cX8_street 133 = .ok (.aload_n 0, 1) := dc0 (j := 28) sX8_street_105 rfl op_42
theorem dX8_street_134 : decode cX8_street 134 = .ok (.getfield 24, 3) := dcB (j := 29) (f := Instr.getfield) sX8_street_105 rfl op_180 rfl
theorem dX8_street_137 : decode cX8_street 137 = .ok (.iconst 2, 1) := dc0 (j := 32) sX8_street_105 rfl op_5
theorem dX8_street_138 : decode cX8_street 138 = .ok (.aload_n 0, 1) := dc0 (j := 33) sX8_street_105 rfl op_42
theorem dX8_street_139 : decode cX8_street 139 = .ok (.iconst 0, 1) := dc0 (j := 34) sX8_street_105 rfl op_3
theorem sX8_street_140 : sgm cX8_street 140 [16, 20, 182, 0, 131, 79, 167, 0, 8, 42, 5, 182, 0, 120, 42, 16, 10, 182, 0, 128, 154, 0, 8, 42, 5, 182, 0, 120, 42, 180, 0, 24, 6, 92, 46, 4] := by decide +kernel
theorem dX8_street_140 : decode cX8_street 140 = .ok (.bipush 20, 2) := dcSp (j := 0) (a := 20) (f := Instr.bipush) sX8_street_140 rfl op_16 rfl
theorem dX8_street_142 : decode cX8_street 142 = .ok (.invokevirtual 131, 3) := dcB (j := 2) (f := Instr.invokevirtual) sX8_street_140 rfl op_182 rfl
theorem dX8_street_145 : decode cX8_street 145 = .ok (.iastore, 1) := dc0 (j := 5) sX8_street_140 rfl op_79
theorem dX8_street_146 : decode cX8_street 146 = .ok (.goto 8, 3) := dcTp (j := 6) (v := 8) (f := Instr.goto) sX8_street_140 rfl op_167 rfl rfl
theorem dX8_street_149 : decode cX8_street 149 = .ok (.aload_n 0, 1) := dc0 (j := 9) sX8_street_140 rfl op_42
theorem dX8_street_150 : decode cX8_street 150 = .ok (.iconst 2, 1) := dc0 (j := 10) sX8_street_140 rfl op_5
theorem dX8_street_151 : decode cX8_street 151 = .ok (.invokevirtual 120, 3) := dcB (j := 11) (f := Instr.invokevirtual) sX8_street_140 rfl op_182 rfl
theorem dX8_street_154 : decode cX8_street 154 = .ok (.aload_n 0, 1) := dc0 (j := 14) sX8_street_140 rfl op_42
theorem dX8_street_155 : decode cX8_street 155 = .ok (.bipush 10, 2) := dcSp (j := 15) (a := 10) (f := Instr.bipush) sX8_street_140 rfl op_16 rfl
theorem dX8_street_157 : decode cX8_street 157 = .ok (.invokevirtual 128, 3) := dcB (j := 17) (f := Instr.invokevirtual) sX8_street_140 rfl op_182 rfl
theorem dX8_street_160 : decode cX8_street 160 = .ok (.ifCond .ne 8, 3) := dcTp (j := 20) (v := 8) (f := Instr.ifCond .ne) sX8_street_140 rfl op_154 rfl rfl
theorem dX8_street_163 : decode cX8_street 163 = .ok (.aload_n 0, 1) := dc0 (j := 23) sX8_street_140 rfl op_42
theorem dX8_street_164 : decode cX8_street 164 = .ok (.iconst 2, 1) := dc0 (j := 24) sX8_street_140 rfl op_5
theorem dX8_street_165 : decode cX8_street 165 = .ok (.invokevirtual 120, 3) := dcB (j := 25) (f := Instr.invokevirtual) sX8_street_140 rfl op_182 rfl
theorem dX8_street_168 : decode cX8_street 168 = .ok (.aload_n 0, 1) := dc0 (j := 28) sX8_street_140 rfl op_42
theorem dX8_street_169 : decode cX8_street 169 = .ok (.getfield 24, 3) := dcB (j := 29) (f := Instr.getfield) sX8_street_140 rfl op_180 rfl
theorem dX8_street_172 : decode cX8_street 172 = .ok (.iconst 3, 1) := dc0 (j := 32) sX8_street_140 rfl op_6
theorem dX8_street_173 : decode cX8_street 173 = .ok (.dup2, 1) := dc0 (j := 33) sX8_street_140 rfl op_92
theorem dX8_street_174 : decode cX8_street 174 = .ok (.iaload, 1) := dc0 (j := 34) sX8_street_140 rfl op_46
theorem dX8_street_175 : decode cX8_street 175 = .ok (.iconst 1, 1) := dc0 (j := 35) sX8_street_140 rfl op_4
theorem sX8_street_176 : sgm cX8_street 176 [96, 79, 167, 255, 155, 42, 42, 180, 0, 108, 181, 0, 145, 42, 42, 180, 0, 108, 154, 0, 7, 2, 167, 0, 7, 42, 180, 0, 111, 181, 0, 27, 42, 180, 0, 108] := by decide +kernel
theorem dX8_street_176 : decode cX8_street 176 = .ok (.iadd, 1) := dc0 (j := 0) sX8_street_176 rfl op_96
theorem dX8_street_177 : decode cX8_street 177 = .ok (.iastore, 1) := dc0 (j := 1) sX8_street_176 rfl op_79
theorem dX8_street_178 : decode cX8_street 178 = .ok (.goto (-101), 3) := dcTn (j := 2) (v := 101) (f := Instr.goto) sX8_street_176 rfl op_167 rfl rfl rfl
theorem dX8_street_181 : decode cX8_street 181 = .ok (.aload_n 0, 1) := dc0 (j := 5) sX8_street_176 rfl op_42
theorem dX8_street_182 : decode cX8_street 182 = .ok (.aload_n 0, 1) := dc0 (j := 6) sX8_street_176 rfl op_42
theorem dX8_street_183 : decode cX8_street 183 = .ok (.getfield 108, 3) := dcB (j := 7) (f := Instr.getfield) sX8_street_176 rfl op_180 rfl
theorem dX8_street_186 : decode cX8_street 186 = .ok (.putfield 145, 3) := dcB (j := 10) (f := Instr.putfield) sX8_street_176 rfl op_181 rfl
theorem dX8_street_189 : decode cX8_street 189 = .ok (.aload_n 0, 1) := dc0 (j := 13) sX8_street_176 rfl op_42
theorem dX8_street_190 : decode cX8_street 190 = .ok (.aload_n 0, 1) := dc0 (j := 14) sX8_street_176 rfl op_42
theorem dX8_street_191 : decode cX8_street 191 = .ok (.getfield 108, 3) := dcB (j := 15) (f := Instr.getfield) sX8_street_176 rfl op_180 rfl
theorem dX8_street_194 : decode cX8_street 194 = .ok (.ifCond .ne 7, 3) := dcTp (j := 18) (v := 7) (f := Instr.ifCond .ne) sX8_street_176 rfl op_154 rfl rfl
theorem dX8_street_197 : decode cX8_street 197 = .ok (.iconst (-1), 1) := dc0 (j := 21) sX8_street_176 rfl op_2
theorem dX8_street_198 : decode cX8_street 198 = .ok (.goto 7, 3) := dcTp (j := 22) (v := 7) (f := Instr.goto) sX8_street_176 rfl op_167 rfl rfl
theorem dX8_street_201 : decode cX8_street 201 = .ok (.aload_n 0, 1) := dc0 (j := 25) sX8_street_176 rfl op_42
theorem dX8_street_202 : decode cX8_street 202 = .ok (.getfield 111, 3) := dcB (j := 26) (f := Instr.getfield) sX8_street_176 rfl op_180 rfl
theorem dX8_street_205 : decode cX8_street 205 = .ok (.putfield 27, 3) := dcB (j := 29) (f := Instr.putfield) sX8_street_176 rfl op_181 rfl
theorem dX8_street_208 : decode cX8_street 208 = .ok (.aload_n 0, 1) := dc0 (j := 32) sX8_street_176 rfl op_42
theorem dX8_street_209 : decode cX8_street 209 = .ok (.getfield 108, 3) := dcB (j := 33) (f := Instr.getfield) sX8_street_176 rfl op_180 rfl
theorem sX8_street_212 : sgm cX8_street 212 [153, 0, 11, 16, 226, 42, 180, 0, 108, 100, 172, 3, 61, 28, 16, 94, 162, 0, 21, 42, 180, 0, 13, 28, 42, 180, 0, 24, 28, 46, 79, 132, 2, 1] := by decide +kernel
theorem dX8_street_212 : decode cX8_street 212 = .ok (.ifCond .eq 11, 3) := dcTp (j := 0) (v := 11) (f := Instr.ifCond .eq) sX8_street_212 rfl op_153 rfl rfl
theorem dX8_street_215 : decode cX8_street 215 = .ok (.bipush (-30), 2) := dcSn (j := 3) (v := 30) (f := Instr.bipush) sX8_street_212 rfl op_16 rfl rfl rfl
theorem dX8_street_217 : decode cX8_street 217 = .ok (.aload_n 0, 1) := dc0 (j := 5) sX8_street_212 rfl op_42
theorem dX8_street_218 : decode cX8_street 218 = .ok (.getfield 108, 3) := dcB (j := 6) (f := Instr.getfield) sX8_street_212 rfl op_180 rfl
theorem dX8_street_221 : decode cX8_street 221 = .ok (.isub, 1) := dc0 (j := 9) sX8_street_212 rfl op_100
theorem dX8_street_222 : decode cX8_street 222 = .ok (.ireturn, 1) := dc0 (j := 10) sX8_street_212 rfl op_172
theorem dX8_street_223 : decode cX8_street 223 = .ok (.iconst 0, 1) := dc0 (j := 11) sX8_street_212 rfl op_3
theorem dX8_street_224 : decode cX8_street 224 = .ok (.istore_n 2, 1) := dc0 (j := 12) sX8_street_212 rfl op_61
theorem dX8_street_225 : decode cX8_street 225 = .ok (.iload_n 2, 1) := dc0 (j := 13) sX8_street_212 rfl op_28
theorem dX8_street_226 : decode cX8_street 226 = .ok (.bipush 94, 2) := dcSp (j := 14) (a := 94) (f := Instr.bipush) sX8_street_212 rfl op_16 rfl
theorem dX8_street_228 : decode cX8_street 228 = .ok (.if_icmp .ge 21, 3) := dcTp (j := 16) (v := 21) (f := Instr.if_icmp .ge) sX8_street_212 rfl op_162 rfl rfl
theorem dX8_street_231 : decode cX8_street 231 = .ok (.aload_n 0, 1) := dc0 (j := 19) sX8_street_212 rfl op_42
theorem dX8_street_232 : decode cX8_street 232 = .ok (.getfield 13, 3) := dcB (j := 20) (f := Instr.getfield) sX8_street_212 rfl op_180 rfl
theorem dX8_street_235 : decode cX8_street 235 = .ok (.iload_n 2, 1) := dc0 (j := 23) sX8_street_212 rfl op_28
theorem dX8_street_236 : decode cX8_street 236 = .ok (.aload_n 0, 1) := dc0 (j := 24) sX8_street_212 rfl op_42
theorem dX8_street_237 : decode cX8_street 237 = .ok (.getfield 24, 3) := dcB (j := 25) (f := Instr.getfield) sX8_street_212 rfl op_180 rfl
theorem dX8_street_240 : decode cX8_street 240 = .ok (.iload_n 2, 1) := dc0 (j := 28) sX8_street_212 rfl op_28
theorem dX8_street_241 : decode cX8_street 241 = .ok (.iaload, 1) := dc0 (j := 29) sX8_street_212 rfl op_46
theorem dX8_street_242 : decode cX8_street 242 = .ok (.iastore, 1) := dc0 (j := 30) sX8_street_212 rfl op_79
theorem dX8_street_243 : decode cX8_street 243 = .ok (.iinc 2 1, 3) := dcIp (j := 31) sX8_street_212 rfl op_132 rfl
theorem sX8_street_246 : sgm cX8_street 246 [167, 255, 235, 3, 61, 28, 42, 180, 0, 13, 3, 46, 162, 0, 54, 42, 180, 0, 13, 16, 84, 28, 96, 42, 180, 0, 24, 16, 84, 28, 96, 46, 158, 0, 17, 42] := by decide +kernel
theorem dX8_street_246 : decode cX8_street 246 = .ok (.goto (-21), 3) := dcTn (j := 0) (v := 21) (f := Instr.goto) sX8_street_246 rfl op_167 rfl rfl rfl
theorem dX8_street_249 : decode cX8_street 249 = .ok (.iconst 0, 1) := dc0 (j := 3) sX8_street_246 rfl op_3
theorem dX8_street_250 : decode cX8_street 250 = .ok (.istore_n 2, 1) := dc0 (j := 4) sX8_street_246 rfl op_61
theorem dX8_street_251 : decode cX8_street 251 = .ok (.iload_n 2, 1) := dc0 (j := 5) sX8_street_246 rfl op_28
theorem dX8_street_252 : decode cX8_street 252 = .ok (.aload_n 0, 1) := dc0 (j := 6) sX8_street_246 rfl op_42
theorem dX8_street_253 : decode cX8_street 253 = .ok (.getfield 13, 3) := dcB (j := 7) (f := Instr.getfield) sX8_street_246 rfl op_180 rfl
theorem dX8_street_256 : decode cX8_street 256 = .ok (.iconst 0, 1) := dc0 (j := 10) sX8_street_246 rfl op_3
theorem dX8_street_257 : decode cX8_street 257 = .ok (.iaload, 1) := dc0 (j := 11) sX8_street_246 rfl op_46
theorem dX8_street_258 : decode cX8_street 258 = .ok (.if_icmp .ge 54, 3) := dcTp (j := 12) (v := 54) (f := Instr.if_icmp .ge) sX8_street_246 rfl op_162 rfl rfl
theorem dX8_street_261 : decode cX8_street 261 = .ok (.aload_n 0, 1) := dc0 (j := 15) sX8_street_246 rfl op_42
theorem dX8_street_262 : decode cX8_street 262 = .ok (.getfield 13, 3) := dcB (j := 16) (f := Instr.getfield) sX8_street_246 rfl op_180 rfl
theorem dX8_street_265 : decode cX8_street 265 = .ok (.bipush 84, 2) := dcSp (j := 19) (a := 84) (f := Instr.bipush) sX8_street_246 rfl op_16 rfl
theorem dX8_street_267 : decode cX8_street 267 = .ok (.iload_n 2, 1) := dc0 (j := 21) sX8_street_246 rfl op_28
theorem dX8_street_268 : decode cX8_street 268 = .ok (.iadd, 1) := dc0 (j := 22) sX8_street_246 rfl op_96
theorem dX8_street_269 : decode cX8_street 269 = .ok (.aload_n 0, 1) := dc0 (j := 23) sX8_street_246 rfl op_42
theorem dX8_street_270 : decode cX8_street 270 = .ok (.getfield 24, 3) := dcB (j := 24) (f := Instr.getfield) sX8_street_246 rfl op_180 rfl
theorem dX8_street_273 : decode cX8_street 273 = .ok (.bipush 84, 2) := dcSp (j := 27) (a := 84) (f := Instr.bipush) sX8_street_246 rfl op_16 rfl
theorem dX8_street_275 : decode cX8_street 275 = .ok (.iload_n 2, 1) := dc0 (j := 29) sX8_street_246 rfl op_28
theorem dX8_street_276 : decode cX8_street 276 = .ok (.iadd, 1) := dc0 (j := 30) sX8_street_246 rfl op_96
theorem dX8_street_277 : decode cX8_street 277 = .ok (.iaload, 1) := dc0 (j := 31) sX8_street_246 rfl op_46
theorem dX8_street_278 : decode cX8_street 278 = .ok (.ifCond .le 17, 3) := dcTp (j := 32) (v := 17) (f := Instr.ifCond .le) sX8_street_246 rfl op_158 rfl rfl
theorem dX8_street_281 : decode cX8_street 281 = .ok (.aload_n 0, 1) := dc0 (j := 35) sX8_street_246 rfl op_42
theorem sX8_street_282 : sgm cX8_street 282 [180, 0, 24, 16, 84, 28, 96, 46, 4, 100, 167, 0, 13, 28, 4, 96, 42, 180, 0, 13, 3, 46, 112, 79, 132, 2, 1, 167, 255, 198, 42, 180, 0, 13, 6, 46] := by decide +kernel
theorem dX8_street_282 : decode cX8_street 282 = .ok (.getfield 24, 3) := dcB (j := 0) (f := Instr.getfield) sX8_street_282 rfl op_180 rfl
theorem dX8_street_285 : decode cX8_street 285 = .ok (.bipush 84, 2) := dcSp (j := 3) (a := 84) (f := Instr.bipush) sX8_street_282 rfl op_16 rfl
theorem dX8_street_287 : decode cX8_street 287 = .ok (.iload_n 2, 1) := dc0 (j := 5) sX8_street_282 rfl op_28
theorem dX8_street_288 : decode cX8_street 288 = .ok (.iadd, 1) := dc0 (j := 6) sX8_street_282 rfl op_96
theorem dX8_street_289 : decode cX8_street 289 = .ok (.iaload, 1) := dc0 (j := 7) sX8_street_282 rfl op_46
theorem dX8_street_290 : decode cX8_street 290 = .ok (.iconst 1, 1) := dc0 (j := 8) sX8_street_282 rfl op_4
theorem dX8_street_291 : decode cX8_street 291 = .ok (.isub, 1) := dc0 (j := 9) sX8_street_282 rfl op_100
theorem dX8_street_292 : decode cX8_street 292 = .ok (.goto 13, 3) := dcTp (j := 10) (v := 13) (f := Instr.goto) sX8_street_282 rfl op_167 rfl rfl
theorem dX8_street_295 : decode cX8_street 295 = .ok (.iload_n 2, 1) := dc0 (j := 13) sX8_street_282 rfl op_28
theorem dX8_street_296 : decode cX8_street 296 = .ok (.iconst 1, 1) := dc0 (j := 14) sX8_street_282 rfl op_4
theorem dX8_street_297 : decode cX8_street 297 = .ok (.iadd, 1) := dc0 (j := 15) sX8_street_282 rfl op_96
theorem dX8_street_298 : decode cX8_street 298 = .ok (.aload_n 0, 1) := dc0 (j := 16) sX8_street_282 rfl op_42
theorem dX8_street_299 : decode cX8_street 299 = .ok (.getfield 13, 3) := dcB (j := 17) (f := Instr.getfield) sX8_street_282 rfl op_180 rfl
theorem dX8_street_302 : decode cX8_street 302 = .ok (.iconst 0, 1) := dc0 (j := 20) sX8_street_282 rfl op_3
theorem dX8_street_303 : decode cX8_street 303 = .ok (.iaload, 1) := dc0 (j := 21) sX8_street_282 rfl op_46
theorem dX8_street_304 : decode cX8_street 304 = .ok (.irem, 1) := dc0 (j := 22) sX8_street_282 rfl op_112
theorem dX8_street_305 : decode cX8_street 305 = .ok (.iastore, 1) := dc0 (j := 23) sX8_street_282 rfl op_79
theorem dX8_street_306 : decode cX8_street 306 = .ok (.iinc 2 1, 3) := dcIp (j := 24) sX8_street_282 rfl op_132 rfl
theorem dX8_street_309 : decode cX8_street 309 = .ok (.goto (-58), 3) := dcTn (j := 27) (v := 58) (f := Instr.goto) sX8_street_282 rfl op_167 rfl rfl rfl
theorem dX8_street_312 : decode cX8_street 312 = .ok (.aload_n 0, 1) := dc0 (j := 30) sX8_street_282 rfl op_42
theorem dX8_street_313 : decode cX8_street 313 = .ok (.getfield 13, 3) := dcB (j := 31) (f := Instr.getfield) sX8_street_282 rfl op_180 rfl
theorem dX8_street_316 : decode cX8_street 316 = .ok (.iconst 3, 1) := dc0 (j := 34) sX8_street_282 rfl op_6
theorem dX8_street_317 : decode cX8_street 317 = .ok (.iaload, 1) := dc0 (j := 35) sX8_street_282 rfl op_46
theorem sX8_street_318 : sgm cX8_street 318 [172] := by decide +kernel
theorem dX8_street_318 : decode cX8_street 318 = .ok (.ireturn, 1) := dc0 (j := 0) sX8_street_318 rfl op_172
theorem sX8_fault_0 : sgm cX8_fault 0 [42, 3, 181, 0, 1, 27, 154, 0, 10, 42, 180, 0, 145, 167, 0, 16, 27, 4, 160, 0, 10, 42, 180, 0, 27, 167, 0, 4, 2, 172] := by decide +kernel
theorem dX8_fault_0 : decode cX8_fault 0 = .ok (.aload_n 0, 1) := dc0 (j := 0) sX8_fault_0 rfl op_42
theorem dX8_fault_1 : decode cX8_fault 1 = .ok (.iconst 0, 1) := dc0 (j := 1) sX8_fault_0 rfl op_3
theorem dX8_fault_2 : decode cX8_fault 2 = .ok (.putfield 1, 3) := dcB (j := 2) (f := Instr.putfield) sX8_fault_0 rfl op_181 rfl
theorem dX8_fault_5 : decode cX8_fault 5 = .ok (.iload_n 1, 1) := dc0 (j := 5) sX8_fault_0 rfl op_27
theorem dX8_fault_6 : decode cX8_fault 6 = .ok (.ifCond .ne 10, 3) := dcTp (j := 6) (v := 10) (f := Instr.ifCond .ne) sX8_fault_0 rfl op_154 rfl rfl
theorem dX8_fault_9 : decode cX8_fault 9 = .ok (.aload_n 0, 1) := dc0 (j := 9) sX8_fault_0 rfl op_42
theorem dX8_fault_10 : decode cX8_fault 10 = .ok (.getfield 145, 3) := dcB (j := 10) (f := Instr.getfield) sX8_fault_0 rfl op_180 rfl
theorem dX8_fault_13 : decode cX8_fault 13 = .ok (.goto 16, 3) := dcTp (j := 13) (v := 16) (f := Instr.goto) sX8_fault_0 rfl op_167 rfl rfl
theorem dX8_fault_16 : decode cX8_fault 16 = .ok (.iload_n 1, 1) := dc0 (j := 16) sX8_fault_0 rfl op_27
theorem dX8_fault_17 : decode cX8_fault 17 = .ok (.iconst 1, 1) := dc0 (j := 17) sX8_fault_0 rfl op_4
theorem dX8_fault_18 : decode cX8_fault 18 = .ok (.if_icmp .ne 10, 3) := dcTp (j := 18) (v := 10) (f := Instr.if_icmp .ne) sX8_fault_0 rfl op_160 rfl rfl
theorem dX8_fault_21 : decode cX8_fault 21 = .ok (.aload_n 0, 1) := dc0 (j := 21) sX8_fault_0 rfl op_42
theorem dX8_fault_22 : decode cX8_fault 22 = .ok (.getfield 27, 3) := dcB (j := 22) (f := Instr.getfield) sX8_fault_0 rfl op_180 rfl
theorem dX8_fault_25 : decode cX8_fault 25 = .ok (.goto 4, 3) := dcTp (j := 25) (v := 4) (f := Instr.goto) sX8_fault_0 rfl op_167 rfl rfl
theorem dX8_fault_28 : decode cX8_fault 28 = .ok (.iconst (-1), 1) := dc0 (j := 28) sX8_fault_0 rfl op_2
theorem dX8_fault_29 : decode cX8_fault 29 = .ok (.ireturn, 1) := dc0 (j := 29) sX8_fault_0 rfl op_172
theorem sX8_isSmith_0 : sgm cX8_isSmith 0 [27, 133, 9, 42, 180, 0, 13, 3, 46, 4, 100, 133, 184, 0, 124, 172] := by decide +kernel
theorem dX8_isSmith_0 : decode cX8_isSmith 0 = .ok (.iload_n 1, 1) := dc0 (j := 0) sX8_isSmith_0 rfl op_27
theorem dX8_isSmith_1 : decode cX8_isSmith 1 = .ok (.i2l, 1) := dc0 (j := 1) sX8_isSmith_0 rfl op_133
theorem dX8_isSmith_2 : decode cX8_isSmith 2 = .ok (.lconst 0, 1) := dc0 (j := 2) sX8_isSmith_0 rfl op_9
theorem dX8_isSmith_3 : decode cX8_isSmith 3 = .ok (.aload_n 0, 1) := dc0 (j := 3) sX8_isSmith_0 rfl op_42
theorem dX8_isSmith_4 : decode cX8_isSmith 4 = .ok (.getfield 13, 3) := dcB (j := 4) (f := Instr.getfield) sX8_isSmith_0 rfl op_180 rfl
theorem dX8_isSmith_7 : decode cX8_isSmith 7 = .ok (.iconst 0, 1) := dc0 (j := 7) sX8_isSmith_0 rfl op_3
theorem dX8_isSmith_8 : decode cX8_isSmith 8 = .ok (.iaload, 1) := dc0 (j := 8) sX8_isSmith_0 rfl op_46
theorem dX8_isSmith_9 : decode cX8_isSmith 9 = .ok (.iconst 1, 1) := dc0 (j := 9) sX8_isSmith_0 rfl op_4
theorem dX8_isSmith_10 : decode cX8_isSmith 10 = .ok (.isub, 1) := dc0 (j := 10) sX8_isSmith_0 rfl op_100
theorem dX8_isSmith_11 : decode cX8_isSmith 11 = .ok (.i2l, 1) := dc0 (j := 11) sX8_isSmith_0 rfl op_133
theorem dX8_isSmith_12 : decode cX8_isSmith 12 = .ok (.invokestatic 124, 3) := dcB (j := 12) (f := Instr.invokestatic) sX8_isSmith_0 rfl op_184 rfl
theorem dX8_isSmith_15 : decode cX8_isSmith 15 = .ok (.ireturn, 1) := dc0 (j := 15) sX8_isSmith_0 rfl op_172
theorem sX8_isDone_0 : sgm cX8_isDone 0 [42, 180, 0, 13, 16, 64, 27, 96, 46, 42, 180, 0, 13, 16, 54, 27, 96, 46, 161, 0, 7, 4, 167, 0, 4, 3, 172] := by decide +kernel
theorem dX8_isDone_0 : decode cX8_isDone 0 = .ok (.aload_n 0, 1) := dc0 (j := 0) sX8_isDone_0 rfl op_42
theorem dX8_isDone_1 : decode cX8_isDone 1 = .ok (.getfield 13, 3) := dcB (j := 1) (f := Instr.getfield) sX8_isDone_0 rfl op_180 rfl
theorem dX8_isDone_4 : decode cX8_isDone 4 = .ok (.bipush 64, 2) := dcSp (j := 4) (a := 64) (f := Instr.bipush) sX8_isDone_0 rfl op_16 rfl
theorem dX8_isDone_6 : decode cX8_isDone 6 = .ok (.iload_n 1, 1) := dc0 (j := 6) sX8_isDone_0 rfl op_27
theorem dX8_isDone_7 : decode cX8_isDone 7 = .ok (.iadd, 1) := dc0 (j := 7) sX8_isDone_0 rfl op_96
theorem dX8_isDone_8 : decode cX8_isDone 8 = .ok (.iaload, 1) := dc0 (j := 8) sX8_isDone_0 rfl op_46
theorem dX8_isDone_9 : decode cX8_isDone 9 = .ok (.aload_n 0, 1) := dc0 (j := 9) sX8_isDone_0 rfl op_42
theorem dX8_isDone_10 : decode cX8_isDone 10 = .ok (.getfield 13, 3) := dcB (j := 10) (f := Instr.getfield) sX8_isDone_0 rfl op_180 rfl
theorem dX8_isDone_13 : decode cX8_isDone 13 = .ok (.bipush 54, 2) := dcSp (j := 13) (a := 54) (f := Instr.bipush) sX8_isDone_0 rfl op_16 rfl
theorem dX8_isDone_15 : decode cX8_isDone 15 = .ok (.iload_n 1, 1) := dc0 (j := 15) sX8_isDone_0 rfl op_27
theorem dX8_isDone_16 : decode cX8_isDone 16 = .ok (.iadd, 1) := dc0 (j := 16) sX8_isDone_0 rfl op_96
theorem dX8_isDone_17 : decode cX8_isDone 17 = .ok (.iaload, 1) := dc0 (j := 17) sX8_isDone_0 rfl op_46
theorem dX8_isDone_18 : decode cX8_isDone 18 = .ok (.if_icmp .lt 7, 3) := dcTp (j := 18) (v := 7) (f := Instr.if_icmp .lt) sX8_isDone_0 rfl op_161 rfl rfl
theorem dX8_isDone_21 : decode cX8_isDone 21 = .ok (.iconst 1, 1) := dc0 (j := 21) sX8_isDone_0 rfl op_4
theorem dX8_isDone_22 : decode cX8_isDone 22 = .ok (.goto 4, 3) := dcTp (j := 22) (v := 4) (f := Instr.goto) sX8_isDone_0 rfl op_167 rfl rfl
theorem dX8_isDone_25 : decode cX8_isDone 25 = .ok (.iconst 0, 1) := dc0 (j := 25) sX8_isDone_0 rfl op_3
theorem dX8_isDone_26 : decode cX8_isDone 26 = .ok (.ireturn, 1) := dc0 (j := 26) sX8_isDone_0 rfl op_172
theorem sX8_isIn_0 : sgm cX8_isIn 0 [30, 28, 123, 10, 127, 10, 148, 154, 0, 7, 4, 167, 0, 4, 3, 172] := by decide +kernel
theorem dX8_isIn_0 : decode cX8_isIn 0 = .ok (.lload_n 0, 1) := dc0 (j := 0) sX8_isIn_0 rfl op_30
theorem dX8_isIn_1 : decode cX8_isIn 1 = .ok (.iload_n 2, 1) := dc0 (j := 1) sX8_isIn_0 rfl op_28
theorem dX8_isIn_2 : decode cX8_isIn 2 = .ok (.lshr, 1) := dc0 (j := 2) sX8_isIn_0 rfl op_123
theorem dX8_isIn_3 : decode cX8_isIn 3 = .ok (.lconst 1, 1) := dc0 (j := 3) sX8_isIn_0 rfl op_10
theorem dX8_isIn_4 : decode cX8_isIn 4 = .ok (.land, 1) := dc0 (j := 4) sX8_isIn_0 rfl op_127
theorem dX8_isIn_5 : decode cX8_isIn 5 = .ok (.lconst 1, 1) := dc0 (j := 5) sX8_isIn_0 rfl op_10
theorem dX8_isIn_6 : decode cX8_isIn 6 = .ok (.lcmp, 1) := dc0 (j := 6) sX8_isIn_0 rfl op_148
theorem dX8_isIn_7 : decode cX8_isIn 7 = .ok (.ifCond .ne 7, 3) := dcTp (j := 7) (v := 7) (f := Instr.ifCond .ne) sX8_isIn_0 rfl op_154 rfl rfl
theorem dX8_isIn_10 : decode cX8_isIn 10 = .ok (.iconst 1, 1) := dc0 (j := 10) sX8_isIn_0 rfl op_4
theorem dX8_isIn_11 : decode cX8_isIn 11 = .ok (.goto 4, 3) := dcTp (j := 11) (v := 4) (f := Instr.goto) sX8_isIn_0 rfl op_167 rfl rfl
theorem dX8_isIn_14 : decode cX8_isIn 14 = .ok (.iconst 0, 1) := dc0 (j := 14) sX8_isIn_0 rfl op_3
theorem dX8_isIn_15 : decode cX8_isIn 15 = .ok (.ireturn, 1) := dc0 (j := 15) sX8_isIn_0 rfl op_172
theorem sX8_smith_0 : sgm cX8_smith 0 [42, 3, 181, 0, 1, 42, 27, 182, 0, 148, 153, 0, 15, 28, 133, 9, 20, 0, 151, 184, 0, 124, 154, 0, 6, 16, 254, 172, 28, 16, 9, 160, 0, 19, 42, 27] := by decide +kernel
theorem dX8_smith_0 : decode cX8_smith 0 = .ok (.aload_n 0, 1) := dc0 (j := 0) sX8_smith_0 rfl op_42
theorem dX8_smith_1 : decode cX8_smith 1 = .ok (.iconst 0, 1) := dc0 (j := 1) sX8_smith_0 rfl op_3
theorem dX8_smith_2 : decode cX8_smith 2 = .ok (.putfield 1, 3) := dcB (j := 2) (f := Instr.putfield) sX8_smith_0 rfl op_181 rfl
theorem dX8_smith_5 : decode cX8_smith 5 = .ok (.aload_n 0, 1) := dc0 (j := 5) sX8_smith_0 rfl op_42
theorem dX8_smith_6 : decode cX8_smith 6 = .ok (.iload_n 1, 1) := dc0 (j := 6) sX8_smith_0 rfl op_27
theorem dX8_smith_7 : decode cX8_smith 7 = .ok (.invokevirtual 148, 3) := dcB (j := 7) (f := Instr.invokevirtual) sX8_smith_0 rfl op_182 rfl
theorem dX8_smith_10 : decode cX8_smith 10 = .ok (.ifCond .eq 15, 3) := dcTp (j := 10) (v := 15) (f := Instr.ifCond .eq) sX8_smith_0 rfl op_153 rfl rfl
theorem dX8_smith_13 : decode cX8_smith 13 = .ok (.iload_n 2, 1) := dc0 (j := 13) sX8_smith_0 rfl op_28
theorem dX8_smith_14 : decode cX8_smith 14 = .ok (.i2l, 1) := dc0 (j := 14) sX8_smith_0 rfl op_133
theorem dX8_smith_15 : decode cX8_smith 15 = .ok (.lconst 0, 1) := dc0 (j := 15) sX8_smith_0 rfl op_9
theorem dX8_smith_16 : decode cX8_smith 16 = .ok (.ldc2_w 151, 3) := dcB (j := 16) (f := Instr.ldc2_w) sX8_smith_0 rfl op_20 rfl
theorem dX8_smith_19 : decode cX8_smith 19 = .ok (.invokestatic 124, 3) := dcB (j := 19) (f := Instr.invokestatic) sX8_smith_0 rfl op_184 rfl
theorem dX8_smith_22 : decode cX8_smith 22 = .ok (.ifCond .ne 6, 3) := dcTp (j := 22) (v := 6) (f := Instr.ifCond .ne) sX8_smith_0 rfl op_154 rfl rfl
theorem dX8_smith_25 : decode cX8_smith 25 = .ok (.bipush (-2), 2) := dcSn (j := 25) (v := 2) (f := Instr.bipush) sX8_smith_0 rfl op_16 rfl rfl rfl
theorem dX8_smith_27 : decode cX8_smith 27 = .ok (.ireturn, 1) := dc0 (j := 27) sX8_smith_0 rfl op_172
theorem dX8_smith_28 : decode cX8_smith 28 = .ok (.iload_n 2, 1) := dc0 (j := 28) sX8_smith_0 rfl op_28
theorem dX8_smith_29 : decode cX8_smith 29 = .ok (.bipush 9, 2) := dcSp (j := 29) (a := 9) (f := Instr.bipush) sX8_smith_0 rfl op_16 rfl
theorem dX8_smith_31 : decode cX8_smith 31 = .ok (.if_icmp .ne 19, 3) := dcTp (j := 31) (v := 19) (f := Instr.if_icmp .ne) sX8_smith_0 rfl op_160 rfl rfl
theorem dX8_smith_34 : decode cX8_smith 34 = .ok (.aload_n 0, 1) := dc0 (j := 34) sX8_smith_0 rfl op_42
theorem dX8_smith_35 : decode cX8_smith 35 = .ok (.iload_n 1, 1) := dc0 (j := 35) sX8_smith_0 rfl op_27
theorem sX8_smith_36 : sgm cX8_smith 36 [182, 0, 153, 153, 0, 7, 4, 167, 0, 20, 3, 167, 0, 16, 42, 180, 0, 13, 7, 16, 10, 28, 104, 96, 27, 96, 46, 172] := by decide +kernel
theorem dX8_smith_36 : decode cX8_smith 36 = .ok (.invokevirtual 153, 3) := dcB (j := 0) (f := Instr.invokevirtual) sX8_smith_36 rfl op_182 rfl
theorem dX8_smith_39 : decode cX8_smith 39 = .ok (.ifCond .eq 7, 3) := dcTp (j := 3) (v := 7) (f := Instr.ifCond .eq) sX8_smith_36 rfl op_153 rfl rfl
theorem dX8_smith_42 : decode cX8_smith 42 = .ok (.iconst 1, 1) := dc0 (j := 6) sX8_smith_36 rfl op_4
theorem dX8_smith_43 : decode cX8_smith 43 = .ok (.goto 20, 3) := dcTp (j := 7) (v := 20) (f := Instr.goto) sX8_smith_36 rfl op_167 rfl rfl
theorem dX8_smith_46 : decode cX8_smith 46 = .ok (.iconst 0, 1) := dc0 (j := 10) sX8_smith_36 rfl op_3
theorem dX8_smith_47 : decode cX8_smith 47 = .ok (.goto 16, 3) := dcTp (j := 11) (v := 16) (f := Instr.goto) sX8_smith_36 rfl op_167 rfl rfl
theorem dX8_smith_50 : decode cX8_smith 50 = .ok (.aload_n 0, 1) := dc0 (j := 14) sX8_smith_36 rfl op_42
theorem dX8_smith_51 : decode cX8_smith 51 = .ok (.getfield 13, 3) := dcB (j := 15) (f := Instr.getfield) sX8_smith_36 rfl op_180 rfl
theorem dX8_smith_54 : decode cX8_smith 54 = .ok (.iconst 4, 1) := dc0 (j := 18) sX8_smith_36 rfl op_7
theorem dX8_smith_55 : decode cX8_smith 55 = .ok (.bipush 10, 2) := dcSp (j := 19) (a := 10) (f := Instr.bipush) sX8_smith_36 rfl op_16 rfl
theorem dX8_smith_57 : decode cX8_smith 57 = .ok (.iload_n 2, 1) := dc0 (j := 21) sX8_smith_36 rfl op_28
theorem dX8_smith_58 : decode cX8_smith 58 = .ok (.imul, 1) := dc0 (j := 22) sX8_smith_36 rfl op_104
theorem dX8_smith_59 : decode cX8_smith 59 = .ok (.iadd, 1) := dc0 (j := 23) sX8_smith_36 rfl op_96
theorem dX8_smith_60 : decode cX8_smith 60 = .ok (.iload_n 1, 1) := dc0 (j := 24) sX8_smith_36 rfl op_27
theorem dX8_smith_61 : decode cX8_smith 61 = .ok (.iadd, 1) := dc0 (j := 25) sX8_smith_36 rfl op_96
theorem dX8_smith_62 : decode cX8_smith 62 = .ok (.iaload, 1) := dc0 (j := 26) sX8_smith_36 rfl op_46
theorem dX8_smith_63 : decode cX8_smith 63 = .ok (.ireturn, 1) := dc0 (j := 27) sX8_smith_36 rfl op_172
theorem sX8_blowersOf_0 : sgm cX8_blowersOf 0 [3, 61, 3, 62, 29, 42, 180, 0, 13, 3, 46, 162, 0, 32, 28, 42, 180, 0, 13, 16, 84, 29, 96, 46, 27, 160, 0, 9, 4, 29, 120, 167, 0, 4, 3, 128] := by decide +kernel
theorem dX8_blowersOf_0 : decode cX8_blowersOf 0 = .ok (.iconst 0, 1) := dc0 (j := 0) sX8_blowersOf_0 rfl op_3
theorem dX8_blowersOf_1 : decode cX8_blowersOf 1 = .ok (.istore_n 2, 1) := dc0 (j := 1) sX8_blowersOf_0 rfl op_61
theorem dX8_blowersOf_2 : decode cX8_blowersOf 2 = .ok (.iconst 0, 1) := dc0 (j := 2) sX8_blowersOf_0 rfl op_3
theorem dX8_blowersOf_3 : decode cX8_blowersOf 3 = .ok (.istore_n 3, 1) := dc0 (j := 3) sX8_blowersOf_0 rfl op_62
theorem dX8_blowersOf_4 : decode cX8_blowersOf 4 = .ok (.iload_n 3, 1) := dc0 (j := 4) sX8_blowersOf_0 rfl op_29
theorem dX8_blowersOf_5 : decode cX8_blowersOf 5 = .ok (.aload_n 0, 1) := dc0 (j := 5) sX8_blowersOf_0 rfl op_42
theorem dX8_blowersOf_6 : decode cX8_blowersOf 6 = .ok (.getfield 13, 3) := dcB (j := 6) (f := Instr.getfield) sX8_blowersOf_0 rfl op_180 rfl
theorem dX8_blowersOf_9 : decode cX8_blowersOf 9 = .ok (.iconst 0, 1) := dc0 (j := 9) sX8_blowersOf_0 rfl op_3
theorem dX8_blowersOf_10 : decode cX8_blowersOf 10 = .ok (.iaload, 1) := dc0 (j := 10) sX8_blowersOf_0 rfl op_46
theorem dX8_blowersOf_11 : decode cX8_blowersOf 11 = .ok (.if_icmp .ge 32, 3) := dcTp (j := 11) (v := 32) (f := Instr.if_icmp .ge) sX8_blowersOf_0 rfl op_162 rfl rfl
theorem dX8_blowersOf_14 : decode cX8_blowersOf 14 = .ok (.iload_n 2, 1) := dc0 (j := 14) sX8_blowersOf_0 rfl op_28
theorem dX8_blowersOf_15 : decode cX8_blowersOf 15 = .ok (.aload_n 0, 1) := dc0 (j := 15) sX8_blowersOf_0 rfl op_42
theorem dX8_blowersOf_16 : decode cX8_blowersOf 16 = .ok (.getfield 13, 3) := dcB (j := 16) (f := Instr.getfield) sX8_blowersOf_0 rfl op_180 rfl
theorem dX8_blowersOf_19 : decode cX8_blowersOf 19 = .ok (.bipush 84, 2) := dcSp (j := 19) (a := 84) (f := Instr.bipush) sX8_blowersOf_0 rfl op_16 rfl
theorem dX8_blowersOf_21 : decode cX8_blowersOf 21 = .ok (.iload_n 3, 1) := dc0 (j := 21) sX8_blowersOf_0 rfl op_29
theorem dX8_blowersOf_22 : decode cX8_blowersOf 22 = .ok (.iadd, 1) := dc0 (j := 22) sX8_blowersOf_0 rfl op_96
theorem dX8_blowersOf_23 : decode cX8_blowersOf 23 = .ok (.iaload, 1) := dc0 (j := 23) sX8_blowersOf_0 rfl op_46
theorem dX8_blowersOf_24 : decode cX8_blowersOf 24 = .ok (.iload_n 1, 1) := dc0 (j := 24) sX8_blowersOf_0 rfl op_27
theorem dX8_blowersOf_25 : decode cX8_blowersOf 25 = .ok (.if_icmp .ne 9, 3) := dcTp (j := 25) (v := 9) (f := Instr.if_icmp .ne) sX8_blowersOf_0 rfl op_160 rfl rfl
theorem dX8_blowersOf_28 : decode cX8_blowersOf 28 = .ok (.iconst 1, 1) := dc0 (j := 28) sX8_blowersOf_0 rfl op_4
theorem dX8_blowersOf_29 : decode cX8_blowersOf 29 = .ok (.iload_n 3, 1) := dc0 (j := 29) sX8_blowersOf_0 rfl op_29
theorem dX8_blowersOf_30 : decode cX8_blowersOf 30 = .ok (.ishl, 1) := dc0 (j := 30) sX8_blowersOf_0 rfl op_120
theorem dX8_blowersOf_31 : decode cX8_blowersOf 31 = .ok (.goto 4, 3) := dcTp (j := 31) (v := 4) (f := Instr.goto) sX8_blowersOf_0 rfl op_167 rfl rfl
theorem dX8_blowersOf_34 : decode cX8_blowersOf 34 = .ok (.iconst 0, 1) := dc0 (j := 34) sX8_blowersOf_0 rfl op_3
theorem dX8_blowersOf_35 : decode cX8_blowersOf 35 = .ok (.ior, 1) := dc0 (j := 35) sX8_blowersOf_0 rfl op_128
theorem sX8_blowersOf_36 : sgm cX8_blowersOf 36 [61, 132, 3, 1, 167, 255, 220, 28, 172] := by decide +kernel
theorem dX8_blowersOf_36 : decode cX8_blowersOf 36 = .ok (.istore_n 2, 1) := dc0 (j := 0) sX8_blowersOf_36 rfl op_61
theorem dX8_blowersOf_37 : decode cX8_blowersOf 37 = .ok (.iinc 3 1, 3) := dcIp (j := 1) sX8_blowersOf_36 rfl op_132 rfl
theorem dX8_blowersOf_40 : decode cX8_blowersOf 40 = .ok (.goto (-36), 3) := dcTn (j := 4) (v := 36) (f := Instr.goto) sX8_blowersOf_36 rfl op_167 rfl rfl rfl
theorem dX8_blowersOf_43 : decode cX8_blowersOf 43 = .ok (.iload_n 2, 1) := dc0 (j := 7) sX8_blowersOf_36 rfl op_28
theorem dX8_blowersOf_44 : decode cX8_blowersOf 44 = .ok (.ireturn, 1) := dc0 (j := 8) sX8_blowersOf_36 rfl op_172
theorem sX8_blowers_0 : sgm cX8_blowers 0 [42, 3, 181, 0, 1, 42, 27, 182, 0, 148, 153, 0, 11, 42, 27, 182, 0, 156, 167, 0, 5, 16, 254, 172] := by decide +kernel
theorem dX8_blowers_0 : decode cX8_blowers 0 = .ok (.aload_n 0, 1) := dc0 (j := 0) sX8_blowers_0 rfl op_42
theorem dX8_blowers_1 : decode cX8_blowers 1 = .ok (.iconst 0, 1) := dc0 (j := 1) sX8_blowers_0 rfl op_3
theorem dX8_blowers_2 : decode cX8_blowers 2 = .ok (.putfield 1, 3) := dcB (j := 2) (f := Instr.putfield) sX8_blowers_0 rfl op_181 rfl
theorem dX8_blowers_5 : decode cX8_blowers 5 = .ok (.aload_n 0, 1) := dc0 (j := 5) sX8_blowers_0 rfl op_42
theorem dX8_blowers_6 : decode cX8_blowers 6 = .ok (.iload_n 1, 1) := dc0 (j := 6) sX8_blowers_0 rfl op_27
theorem dX8_blowers_7 : decode cX8_blowers 7 = .ok (.invokevirtual 148, 3) := dcB (j := 7) (f := Instr.invokevirtual) sX8_blowers_0 rfl op_182 rfl
theorem dX8_blowers_10 : decode cX8_blowers 10 = .ok (.ifCond .eq 11, 3) := dcTp (j := 10) (v := 11) (f := Instr.ifCond .eq) sX8_blowers_0 rfl op_153 rfl rfl
theorem dX8_blowers_13 : decode cX8_blowers 13 = .ok (.aload_n 0, 1) := dc0 (j := 13) sX8_blowers_0 rfl op_42
theorem dX8_blowers_14 : decode cX8_blowers 14 = .ok (.iload_n 1, 1) := dc0 (j := 14) sX8_blowers_0 rfl op_27
theorem dX8_blowers_15 : decode cX8_blowers 15 = .ok (.invokevirtual 156, 3) := dcB (j := 15) (f := Instr.invokevirtual) sX8_blowers_0 rfl op_182 rfl
theorem dX8_blowers_18 : decode cX8_blowers 18 = .ok (.goto 5, 3) := dcTp (j := 18) (v := 5) (f := Instr.goto) sX8_blowers_0 rfl op_167 rfl rfl
theorem dX8_blowers_21 : decode cX8_blowers 21 = .ok (.bipush (-2), 2) := dcSn (j := 21) (v := 2) (f := Instr.bipush) sX8_blowers_0 rfl op_16 rfl rfl rfl
theorem dX8_blowers_23 : decode cX8_blowers 23 = .ok (.ireturn, 1) := dc0 (j := 23) sX8_blowers_0 rfl op_172
theorem sX8_rope_0 : sgm cX8_rope 0 [42, 3, 181, 0, 1, 42, 27, 182, 0, 148, 153, 0, 11, 42, 28, 182, 0, 148, 154, 0, 6, 16, 254, 172, 42, 180, 0, 13, 16, 84, 27, 96, 46, 62, 42] := by decide +kernel
theorem dX8_rope_0 : decode cX8_rope 0 = .ok (.aload_n 0, 1) := dc0 (j := 0) sX8_rope_0 rfl op_42
theorem dX8_rope_1 : decode cX8_rope 1 = .ok (.iconst 0, 1) := dc0 (j := 1) sX8_rope_0 rfl op_3
theorem dX8_rope_2 : decode cX8_rope 2 = .ok (.putfield 1, 3) := dcB (j := 2) (f := Instr.putfield) sX8_rope_0 rfl op_181 rfl
theorem dX8_rope_5 : decode cX8_rope 5 = .ok (.aload_n 0, 1) := dc0 (j := 5) sX8_rope_0 rfl op_42
theorem dX8_rope_6 : decode cX8_rope 6 = .ok (.iload_n 1, 1) := dc0 (j := 6) sX8_rope_0 rfl op_27
theorem dX8_rope_7 : decode cX8_rope 7 = .ok (.invokevirtual 148, 3) := dcB (j := 7) (f := Instr.invokevirtual) sX8_rope_0 rfl op_182 rfl
theorem dX8_rope_10 : decode cX8_rope 10 = .ok (.ifCond .eq 11, 3) := dcTp (j := 10) (v := 11) (f := Instr.ifCond .eq) sX8_rope_0 rfl op_153 rfl rfl
theorem dX8_rope_13 : decode cX8_rope 13 = .ok (.aload_n 0, 1) := dc0 (j := 13) sX8_rope_0 rfl op_42
theorem dX8_rope_14 : decode cX8_rope 14 = .ok (.iload_n 2, 1) := dc0 (j := 14) sX8_rope_0 rfl op_28
theorem dX8_rope_15 : decode cX8_rope 15 = .ok (.invokevirtual 148, 3) := dcB (j := 15) (f := Instr.invokevirtual) sX8_rope_0 rfl op_182 rfl
theorem dX8_rope_18 : decode cX8_rope 18 = .ok (.ifCond .ne 6, 3) := dcTp (j := 18) (v := 6) (f := Instr.ifCond .ne) sX8_rope_0 rfl op_154 rfl rfl
theorem dX8_rope_21 : decode cX8_rope 21 = .ok (.bipush (-2), 2) := dcSn (j := 21) (v := 2) (f := Instr.bipush) sX8_rope_0 rfl op_16 rfl rfl rfl
theorem dX8_rope_23 : decode cX8_rope 23 = .ok (.ireturn, 1) := dc0 (j := 23) sX8_rope_0 rfl op_172
theorem dX8_rope_24 : decode cX8_rope 24 = .ok (.aload_n 0, 1) := dc0 (j := 24) sX8_rope_0 rfl op_42
theorem dX8_rope_25 : decode cX8_rope 25 = .ok (.getfield 13, 3) := dcB (j := 25) (f := Instr.getfield) sX8_rope_0 rfl op_180 rfl
theorem dX8_rope_28 : decode cX8_rope 28 = .ok (.bipush 84, 2) := dcSp (j := 28) (a := 84) (f := Instr.bipush) sX8_rope_0 rfl op_16 rfl
theorem dX8_rope_30 : decode cX8_rope 30 = .ok (.iload_n 1, 1) := dc0 (j := 30) sX8_rope_0 rfl op_27
theorem dX8_rope_31 : decode cX8_rope 31 = .ok (.iadd, 1) := dc0 (j := 31) sX8_rope_0 rfl op_96
theorem dX8_rope_32 : decode cX8_rope 32 = .ok (.iaload, 1) := dc0 (j := 32) sX8_rope_0 rfl op_46
theorem dX8_rope_33 : decode cX8_rope 33 = .ok (.istore_n 3, 1) := dc0 (j := 33) sX8_rope_0 rfl op_62
theorem dX8_rope_34 : decode cX8_rope 34 = .ok (.aload_n 0, 1) := dc0 (j := 34) sX8_rope_0 rfl op_42
theorem sX8_rope_35 : sgm cX8_rope 35 [180, 0, 13, 16, 84, 27, 96, 28, 79, 29, 172] := by decide +kernel
theorem dX8_rope_35 : decode cX8_rope 35 = .ok (.getfield 13, 3) := dcB (j := 0) (f := Instr.getfield) sX8_rope_35 rfl op_180 rfl
theorem dX8_rope_38 : decode cX8_rope 38 = .ok (.bipush 84, 2) := dcSp (j := 3) (a := 84) (f := Instr.bipush) sX8_rope_35 rfl op_16 rfl
theorem dX8_rope_40 : decode cX8_rope 40 = .ok (.iload_n 1, 1) := dc0 (j := 5) sX8_rope_35 rfl op_27
theorem dX8_rope_41 : decode cX8_rope 41 = .ok (.iadd, 1) := dc0 (j := 6) sX8_rope_35 rfl op_96
theorem dX8_rope_42 : decode cX8_rope 42 = .ok (.iload_n 2, 1) := dc0 (j := 7) sX8_rope_35 rfl op_28
theorem dX8_rope_43 : decode cX8_rope 43 = .ok (.iastore, 1) := dc0 (j := 8) sX8_rope_35 rfl op_79
theorem dX8_rope_44 : decode cX8_rope 44 = .ok (.iload_n 3, 1) := dc0 (j := 9) sX8_rope_35 rfl op_29
theorem dX8_rope_45 : decode cX8_rope 45 = .ok (.ireturn, 1) := dc0 (j := 10) sX8_rope_35 rfl op_172
theorem sX8_arm_0 : sgm cX8_arm 0 [42, 3, 181, 0, 1, 42, 27, 182, 0, 148, 154, 0, 6, 16, 254, 172, 28, 133, 9, 20, 0, 159, 184, 0, 124, 154, 0, 6, 16, 253, 172, 42, 180, 0, 13, 7] := by decide +kernel
theorem dX8_arm_0 : decode cX8_arm 0 = .ok (.aload_n 0, 1) := dc0 (j := 0) sX8_arm_0 rfl op_42
theorem dX8_arm_1 : decode cX8_arm 1 = .ok (.iconst 0, 1) := dc0 (j := 1) sX8_arm_0 rfl op_3
theorem dX8_arm_2 : decode cX8_arm 2 = .ok (.putfield 1, 3) := dcB (j := 2) (f := Instr.putfield) sX8_arm_0 rfl op_181 rfl
theorem dX8_arm_5 : decode cX8_arm 5 = .ok (.aload_n 0, 1) := dc0 (j := 5) sX8_arm_0 rfl op_42
theorem dX8_arm_6 : decode cX8_arm 6 = .ok (.iload_n 1, 1) := dc0 (j := 6) sX8_arm_0 rfl op_27
theorem dX8_arm_7 : decode cX8_arm 7 = .ok (.invokevirtual 148, 3) := dcB (j := 7) (f := Instr.invokevirtual) sX8_arm_0 rfl op_182 rfl
theorem dX8_arm_10 : decode cX8_arm 10 = .ok (.ifCond .ne 6, 3) := dcTp (j := 10) (v := 6) (f := Instr.ifCond .ne) sX8_arm_0 rfl op_154 rfl rfl
theorem dX8_arm_13 : decode cX8_arm 13 = .ok (.bipush (-2), 2) := dcSn (j := 13) (v := 2) (f := Instr.bipush) sX8_arm_0 rfl op_16 rfl rfl rfl
theorem dX8_arm_15 : decode cX8_arm 15 = .ok (.ireturn, 1) := dc0 (j := 15) sX8_arm_0 rfl op_172
theorem dX8_arm_16 : decode cX8_arm 16 = .ok (.iload_n 2, 1) := dc0 (j := 16) sX8_arm_0 rfl op_28
theorem dX8_arm_17 : decode cX8_arm 17 = .ok (.i2l, 1) := dc0 (j := 17) sX8_arm_0 rfl op_133
theorem dX8_arm_18 : decode cX8_arm 18 = .ok (.lconst 0, 1) := dc0 (j := 18) sX8_arm_0 rfl op_9
theorem dX8_arm_19 : decode cX8_arm 19 = .ok (.ldc2_w 159, 3) := dcB (j := 19) (f := Instr.ldc2_w) sX8_arm_0 rfl op_20 rfl
theorem dX8_arm_22 : decode cX8_arm 22 = .ok (.invokestatic 124, 3) := dcB (j := 22) (f := Instr.invokestatic) sX8_arm_0 rfl op_184 rfl
theorem dX8_arm_25 : decode cX8_arm 25 = .ok (.ifCond .ne 6, 3) := dcTp (j := 25) (v := 6) (f := Instr.ifCond .ne) sX8_arm_0 rfl op_154 rfl rfl
theorem dX8_arm_28 : decode cX8_arm 28 = .ok (.bipush (-3), 2) := dcSn (j := 28) (v := 3) (f := Instr.bipush) sX8_arm_0 rfl op_16 rfl rfl rfl
theorem dX8_arm_30 : decode cX8_arm 30 = .ok (.ireturn, 1) := dc0 (j := 30) sX8_arm_0 rfl op_172
theorem dX8_arm_31 : decode cX8_arm 31 = .ok (.aload_n 0, 1) := dc0 (j := 31) sX8_arm_0 rfl op_42
theorem dX8_arm_32 : decode cX8_arm 32 = .ok (.getfield 13, 3) := dcB (j := 32) (f := Instr.getfield) sX8_arm_0 rfl op_180 rfl
theorem dX8_arm_35 : decode cX8_arm 35 = .ok (.iconst 4, 1) := dc0 (j := 35) sX8_arm_0 rfl op_7
theorem sX8_arm_36 : sgm cX8_arm 36 [27, 96, 46, 62, 42, 180, 0, 13, 7, 27, 96, 28, 79, 29, 172] := by decide +kernel
theorem dX8_arm_36 : decode cX8_arm 36 = .ok (.iload_n 1, 1) := dc0 (j := 0) sX8_arm_36 rfl op_27
theorem dX8_arm_37 : decode cX8_arm 37 = .ok (.iadd, 1) := dc0 (j := 1) sX8_arm_36 rfl op_96
theorem dX8_arm_38 : decode cX8_arm 38 = .ok (.iaload, 1) := dc0 (j := 2) sX8_arm_36 rfl op_46
theorem dX8_arm_39 : decode cX8_arm 39 = .ok (.istore_n 3, 1) := dc0 (j := 3) sX8_arm_36 rfl op_62
theorem dX8_arm_40 : decode cX8_arm 40 = .ok (.aload_n 0, 1) := dc0 (j := 4) sX8_arm_36 rfl op_42
theorem dX8_arm_41 : decode cX8_arm 41 = .ok (.getfield 13, 3) := dcB (j := 5) (f := Instr.getfield) sX8_arm_36 rfl op_180 rfl
theorem dX8_arm_44 : decode cX8_arm 44 = .ok (.iconst 4, 1) := dc0 (j := 8) sX8_arm_36 rfl op_7
theorem dX8_arm_45 : decode cX8_arm 45 = .ok (.iload_n 1, 1) := dc0 (j := 9) sX8_arm_36 rfl op_27
theorem dX8_arm_46 : decode cX8_arm 46 = .ok (.iadd, 1) := dc0 (j := 10) sX8_arm_36 rfl op_96
theorem dX8_arm_47 : decode cX8_arm 47 = .ok (.iload_n 2, 1) := dc0 (j := 11) sX8_arm_36 rfl op_28
theorem dX8_arm_48 : decode cX8_arm 48 = .ok (.iastore, 1) := dc0 (j := 12) sX8_arm_36 rfl op_79
theorem dX8_arm_49 : decode cX8_arm 49 = .ok (.iload_n 3, 1) := dc0 (j := 13) sX8_arm_36 rfl op_29
theorem dX8_arm_50 : decode cX8_arm 50 = .ok (.ireturn, 1) := dc0 (j := 14) sX8_arm_36 rfl op_172
theorem sX8_piece_0 : sgm cX8_piece 0 [42, 3, 181, 0, 1, 42, 27, 182, 0, 148, 154, 0, 6, 16, 254, 172, 28, 133, 9, 20, 0, 161, 184, 0, 124, 154, 0, 6, 16, 253, 172, 42, 180, 0, 13] := by decide +kernel
theorem dX8_piece_0 : decode cX8_piece 0 = .ok (.aload_n 0, 1) := dc0 (j := 0) sX8_piece_0 rfl op_42
theorem dX8_piece_1 : decode cX8_piece 1 = .ok (.iconst 0, 1) := dc0 (j := 1) sX8_piece_0 rfl op_3
theorem dX8_piece_2 : decode cX8_piece 2 = .ok (.putfield 1, 3) := dcB (j := 2) (f := Instr.putfield) sX8_piece_0 rfl op_181 rfl
theorem dX8_piece_5 : decode cX8_piece 5 = .ok (.aload_n 0, 1) := dc0 (j := 5) sX8_piece_0 rfl op_42
theorem dX8_piece_6 : decode cX8_piece 6 = .ok (.iload_n 1, 1) := dc0 (j := 6) sX8_piece_0 rfl op_27
theorem dX8_piece_7 : decode cX8_piece 7 = .ok (.invokevirtual 148, 3) := dcB (j := 7) (f := Instr.invokevirtual) sX8_piece_0 rfl op_182 rfl
theorem dX8_piece_10 : decode cX8_piece 10 = .ok (.ifCond .ne 6, 3) := dcTp (j := 10) (v := 6) (f := Instr.ifCond .ne) sX8_piece_0 rfl op_154 rfl rfl
theorem dX8_piece_13 : decode cX8_piece 13 = .ok (.bipush (-2), 2) := dcSn (j := 13) (v := 2) (f := Instr.bipush) sX8_piece_0 rfl op_16 rfl rfl rfl
theorem dX8_piece_15 : decode cX8_piece 15 = .ok (.ireturn, 1) := dc0 (j := 15) sX8_piece_0 rfl op_172
theorem dX8_piece_16 : decode cX8_piece 16 = .ok (.iload_n 2, 1) := dc0 (j := 16) sX8_piece_0 rfl op_28
theorem dX8_piece_17 : decode cX8_piece 17 = .ok (.i2l, 1) := dc0 (j := 17) sX8_piece_0 rfl op_133
theorem dX8_piece_18 : decode cX8_piece 18 = .ok (.lconst 0, 1) := dc0 (j := 18) sX8_piece_0 rfl op_9
theorem dX8_piece_19 : decode cX8_piece 19 = .ok (.ldc2_w 161, 3) := dcB (j := 19) (f := Instr.ldc2_w) sX8_piece_0 rfl op_20 rfl
theorem dX8_piece_22 : decode cX8_piece 22 = .ok (.invokestatic 124, 3) := dcB (j := 22) (f := Instr.invokestatic) sX8_piece_0 rfl op_184 rfl
theorem dX8_piece_25 : decode cX8_piece 25 = .ok (.ifCond .ne 6, 3) := dcTp (j := 25) (v := 6) (f := Instr.ifCond .ne) sX8_piece_0 rfl op_154 rfl rfl
theorem dX8_piece_28 : decode cX8_piece 28 = .ok (.bipush (-3), 2) := dcSn (j := 28) (v := 3) (f := Instr.bipush) sX8_piece_0 rfl op_16 rfl rfl rfl
theorem dX8_piece_30 : decode cX8_piece 30 = .ok (.ireturn, 1) := dc0 (j := 30) sX8_piece_0 rfl op_172
theorem dX8_piece_31 : decode cX8_piece 31 = .ok (.aload_n 0, 1) := dc0 (j := 31) sX8_piece_0 rfl op_42
theorem dX8_piece_32 : decode cX8_piece 32 = .ok (.getfield 13, 3) := dcB (j := 32) (f := Instr.getfield) sX8_piece_0 rfl op_180 rfl
theorem sX8_piece_35 : sgm cX8_piece 35 [16, 64, 27, 96, 46, 62, 42, 180, 0, 13, 16, 54, 27, 96, 28, 79, 42, 180, 0, 13, 16, 64, 27, 96, 3, 79, 29, 172] := by decide +kernel
theorem dX8_piece_35 : decode cX8_piece 35 = .ok (.bipush 64, 2) := dcSp (j := 0) (a := 64) (f := Instr.bipush) sX8_piece_35 rfl op_16 rfl
theorem dX8_piece_37 : decode cX8_piece 37 = .ok (.iload_n 1, 1) := dc0 (j := 2) sX8_piece_35 rfl op_27
theorem dX8_piece_38 : decode cX8_piece 38 = .ok (.iadd, 1) := dc0 (j := 3) sX8_piece_35 rfl op_96
theorem dX8_piece_39 : decode cX8_piece 39 = .ok (.iaload, 1) := dc0 (j := 4) sX8_piece_35 rfl op_46
theorem dX8_piece_40 : decode cX8_piece 40 = .ok (.istore_n 3, 1) := dc0 (j := 5) sX8_piece_35 rfl op_62
theorem dX8_piece_41 : decode cX8_piece 41 = .ok (.aload_n 0, 1) := dc0 (j := 6) sX8_piece_35 rfl op_42
theorem dX8_piece_42 : decode cX8_piece 42 = .ok (.getfield 13, 3) := dcB (j := 7) (f := Instr.getfield) sX8_piece_35 rfl op_180 rfl
theorem dX8_piece_45 : decode cX8_piece 45 = .ok (.bipush 54, 2) := dcSp (j := 10) (a := 54) (f := Instr.bipush) sX8_piece_35 rfl op_16 rfl
theorem dX8_piece_47 : decode cX8_piece 47 = .ok (.iload_n 1, 1) := dc0 (j := 12) sX8_piece_35 rfl op_27
theorem dX8_piece_48 : decode cX8_piece 48 = .ok (.iadd, 1) := dc0 (j := 13) sX8_piece_35 rfl op_96
theorem dX8_piece_49 : decode cX8_piece 49 = .ok (.iload_n 2, 1) := dc0 (j := 14) sX8_piece_35 rfl op_28
theorem dX8_piece_50 : decode cX8_piece 50 = .ok (.iastore, 1) := dc0 (j := 15) sX8_piece_35 rfl op_79
theorem dX8_piece_51 : decode cX8_piece 51 = .ok (.aload_n 0, 1) := dc0 (j := 16) sX8_piece_35 rfl op_42
theorem dX8_piece_52 : decode cX8_piece 52 = .ok (.getfield 13, 3) := dcB (j := 17) (f := Instr.getfield) sX8_piece_35 rfl op_180 rfl
theorem dX8_piece_55 : decode cX8_piece 55 = .ok (.bipush 64, 2) := dcSp (j := 20) (a := 64) (f := Instr.bipush) sX8_piece_35 rfl op_16 rfl
theorem dX8_piece_57 : decode cX8_piece 57 = .ok (.iload_n 1, 1) := dc0 (j := 22) sX8_piece_35 rfl op_27
theorem dX8_piece_58 : decode cX8_piece 58 = .ok (.iadd, 1) := dc0 (j := 23) sX8_piece_35 rfl op_96
theorem dX8_piece_59 : decode cX8_piece 59 = .ok (.iconst 0, 1) := dc0 (j := 24) sX8_piece_35 rfl op_3
theorem dX8_piece_60 : decode cX8_piece 60 = .ok (.iastore, 1) := dc0 (j := 25) sX8_piece_35 rfl op_79
theorem dX8_piece_61 : decode cX8_piece 61 = .ok (.iload_n 3, 1) := dc0 (j := 26) sX8_piece_35 rfl op_29
theorem dX8_piece_62 : decode cX8_piece 62 = .ok (.ireturn, 1) := dc0 (j := 27) sX8_piece_35 rfl op_172
theorem sX8_isWarm_0 : sgm cX8_isWarm 0 [42, 180, 0, 13, 16, 24, 27, 96, 46, 42, 180, 0, 13, 16, 34, 27, 96, 46, 161, 0, 28, 42, 180, 0, 13, 16, 24, 27, 96, 46, 42, 180, 0, 13, 16, 44] := by decide +kernel
theorem dX8_isWarm_0 : decode cX8_isWarm 0 = .ok (.aload_n 0, 1) := dc0 (j := 0) sX8_isWarm_0 rfl op_42
theorem dX8_isWarm_1 : decode cX8_isWarm 1 = .ok (.getfield 13, 3) := dcB (j := 1) (f := Instr.getfield) sX8_isWarm_0 rfl op_180 rfl
theorem dX8_isWarm_4 : decode cX8_isWarm 4 = .ok (.bipush 24, 2) := dcSp (j := 4) (a := 24) (f := Instr.bipush) sX8_isWarm_0 rfl op_16 rfl
theorem dX8_isWarm_6 : decode cX8_isWarm 6 = .ok (.iload_n 1, 1) := dc0 (j := 6) sX8_isWarm_0 rfl op_27
theorem dX8_isWarm_7 : decode cX8_isWarm 7 = .ok (.iadd, 1) := dc0 (j := 7) sX8_isWarm_0 rfl op_96
theorem dX8_isWarm_8 : decode cX8_isWarm 8 = .ok (.iaload, 1) := dc0 (j := 8) sX8_isWarm_0 rfl op_46
theorem dX8_isWarm_9 : decode cX8_isWarm 9 = .ok (.aload_n 0, 1) := dc0 (j := 9) sX8_isWarm_0 rfl op_42
theorem dX8_isWarm_10 : decode cX8_isWarm 10 = .ok (.getfield 13, 3) := dcB (j := 10) (f := Instr.getfield) sX8_isWarm_0 rfl op_180 rfl
theorem dX8_isWarm_13 : decode cX8_isWarm 13 = .ok (.bipush 34, 2) := dcSp (j := 13) (a := 34) (f := Instr.bipush) sX8_isWarm_0 rfl op_16 rfl
theorem dX8_isWarm_15 : decode cX8_isWarm 15 = .ok (.iload_n 1, 1) := dc0 (j := 15) sX8_isWarm_0 rfl op_27
theorem dX8_isWarm_16 : decode cX8_isWarm 16 = .ok (.iadd, 1) := dc0 (j := 16) sX8_isWarm_0 rfl op_96
theorem dX8_isWarm_17 : decode cX8_isWarm 17 = .ok (.iaload, 1) := dc0 (j := 17) sX8_isWarm_0 rfl op_46
theorem dX8_isWarm_18 : decode cX8_isWarm 18 = .ok (.if_icmp .lt 28, 3) := dcTp (j := 18) (v := 28) (f := Instr.if_icmp .lt) sX8_isWarm_0 rfl op_161 rfl rfl
theorem dX8_isWarm_21 : decode cX8_isWarm 21 = .ok (.aload_n 0, 1) := dc0 (j := 21) sX8_isWarm_0 rfl op_42
theorem dX8_isWarm_22 : decode cX8_isWarm 22 = .ok (.getfield 13, 3) := dcB (j := 22) (f := Instr.getfield) sX8_isWarm_0 rfl op_180 rfl
theorem dX8_isWarm_25 : decode cX8_isWarm 25 = .ok (.bipush 24, 2) := dcSp (j := 25) (a := 24) (f := Instr.bipush) sX8_isWarm_0 rfl op_16 rfl
theorem dX8_isWarm_27 : decode cX8_isWarm 27 = .ok (.iload_n 1, 1) := dc0 (j := 27) sX8_isWarm_0 rfl op_27
theorem dX8_isWarm_28 : decode cX8_isWarm 28 = .ok (.iadd, 1) := dc0 (j := 28) sX8_isWarm_0 rfl op_96
theorem dX8_isWarm_29 : decode cX8_isWarm 29 = .ok (.iaload, 1) := dc0 (j := 29) sX8_isWarm_0 rfl op_46
theorem dX8_isWarm_30 : decode cX8_isWarm 30 = .ok (.aload_n 0, 1) := dc0 (j := 30) sX8_isWarm_0 rfl op_42
theorem dX8_isWarm_31 : decode cX8_isWarm 31 = .ok (.getfield 13, 3) := dcB (j := 31) (f := Instr.getfield) sX8_isWarm_0 rfl op_180 rfl
theorem dX8_isWarm_34 : decode cX8_isWarm 34 = .ok (.bipush 44, 2) := dcSp (j := 34) (a := 44) (f := Instr.bipush) sX8_isWarm_0 rfl op_16 rfl
theorem sX8_isWarm_36 : sgm cX8_isWarm 36 [27, 96, 46, 163, 0, 7, 4, 167, 0, 4, 3, 172] := by decide +kernel
theorem dX8_isWarm_36 : decode cX8_isWarm 36 = .ok (.iload_n 1, 1) := dc0 (j := 0) sX8_isWarm_36 rfl op_27
theorem dX8_isWarm_37 : decode cX8_isWarm 37 = .ok (.iadd, 1) := dc0 (j := 1) sX8_isWarm_36 rfl op_96
theorem dX8_isWarm_38 : decode cX8_isWarm 38 = .ok (.iaload, 1) := dc0 (j := 2) sX8_isWarm_36 rfl op_46
theorem dX8_isWarm_39 : decode cX8_isWarm 39 = .ok (.if_icmp .gt 7, 3) := dcTp (j := 3) (v := 7) (f := Instr.if_icmp .gt) sX8_isWarm_36 rfl op_163 rfl rfl
theorem dX8_isWarm_42 : decode cX8_isWarm 42 = .ok (.iconst 1, 1) := dc0 (j := 6) sX8_isWarm_36 rfl op_4
theorem dX8_isWarm_43 : decode cX8_isWarm 43 = .ok (.goto 4, 3) := dcTp (j := 7) (v := 4) (f := Instr.goto) sX8_isWarm_36 rfl op_167 rfl rfl
theorem dX8_isWarm_46 : decode cX8_isWarm 46 = .ok (.iconst 0, 1) := dc0 (j := 10) sX8_isWarm_36 rfl op_3
theorem dX8_isWarm_47 : decode cX8_isWarm 47 = .ok (.ireturn, 1) := dc0 (j := 11) sX8_isWarm_36 rfl op_172
theorem sX8_inBounds_0 : sgm cX8_inBounds 0 [26, 156, 0, 7, 3, 167, 0, 17, 26, 17, 0, 200, 164, 0, 9, 17, 0, 200, 167, 0, 4, 26, 172] := by decide +kernel
theorem dX8_inBounds_0 : decode cX8_inBounds 0 = .ok (.iload_n 0, 1) := dc0 (j := 0) sX8_inBounds_0 rfl op_26
theorem dX8_inBounds_1 : decode cX8_inBounds 1 = .ok (.ifCond .ge 7, 3) := dcTp (j := 1) (v := 7) (f := Instr.ifCond .ge) sX8_inBounds_0 rfl op_156 rfl rfl
theorem dX8_inBounds_4 : decode cX8_inBounds 4 = .ok (.iconst 0, 1) := dc0 (j := 4) sX8_inBounds_0 rfl op_3
theorem dX8_inBounds_5 : decode cX8_inBounds 5 = .ok (.goto 17, 3) := dcTp (j := 5) (v := 17) (f := Instr.goto) sX8_inBounds_0 rfl op_167 rfl rfl
theorem dX8_inBounds_8 : decode cX8_inBounds 8 = .ok (.iload_n 0, 1) := dc0 (j := 8) sX8_inBounds_0 rfl op_26
theorem dX8_inBounds_9 : decode cX8_inBounds 9 = .ok (.sipush 200, 3) := dcTp (j := 9) (v := 200) (f := Instr.sipush) sX8_inBounds_0 rfl op_17 rfl rfl
theorem dX8_inBounds_12 : decode cX8_inBounds 12 = .ok (.if_icmp .le 9, 3) := dcTp (j := 12) (v := 9) (f := Instr.if_icmp .le) sX8_inBounds_0 rfl op_164 rfl rfl
theorem dX8_inBounds_15 : decode cX8_inBounds 15 = .ok (.sipush 200, 3) := dcTp (j := 15) (v := 200) (f := Instr.sipush) sX8_inBounds_0 rfl op_17 rfl rfl
theorem dX8_inBounds_18 : decode cX8_inBounds 18 = .ok (.goto 4, 3) := dcTp (j := 18) (v := 4) (f := Instr.goto) sX8_inBounds_0 rfl op_167 rfl rfl
theorem dX8_inBounds_21 : decode cX8_inBounds 21 = .ok (.iload_n 0, 1) := dc0 (j := 21) sX8_inBounds_0 rfl op_26
theorem dX8_inBounds_22 : decode cX8_inBounds 22 = .ok (.ireturn, 1) := dc0 (j := 22) sX8_inBounds_0 rfl op_172
theorem sX8_heatThen_0 : sgm cX8_heatThen 0 [42, 180, 0, 13, 16, 24, 27, 96, 46, 29, 96, 42, 180, 0, 13, 16, 14, 27, 96, 46, 100, 54, 4, 3, 54, 5, 21, 5, 42, 180, 0, 13, 3, 46] := by decide +kernel
theorem dX8_heatThen_0 : decode cX8_heatThen 0 = .ok (.aload_n 0, 1) := dc0 (j := 0) sX8_heatThen_0 rfl op_42
theorem dX8_heatThen_1 : decode cX8_heatThen 1 = .ok (.getfield 13, 3) := dcB (j := 1) (f := Instr.getfield) sX8_heatThen_0 rfl op_180 rfl
theorem dX8_heatThen_4 : decode cX8_heatThen 4 = .ok (.bipush 24, 2) := dcSp (j := 4) (a := 24) (f := Instr.bipush) sX8_heatThen_0 rfl op_16 rfl
theorem dX8_heatThen_6 : decode cX8_heatThen 6 = .ok (.iload_n 1, 1) := dc0 (j := 6) sX8_heatThen_0 rfl op_27
theorem dX8_heatThen_7 : decode cX8_heatThen 7 = .ok (.iadd, 1) := dc0 (j := 7) sX8_heatThen_0 rfl op_96
theorem dX8_heatThen_8 : decode cX8_heatThen 8 = .ok (.iaload, 1) := dc0 (j := 8) sX8_heatThen_0 rfl op_46
theorem dX8_heatThen_9 : decode cX8_heatThen 9 = .ok (.iload_n 3, 1) := dc0 (j := 9) sX8_heatThen_0 rfl op_29
theorem dX8_heatThen_10 : decode cX8_heatThen 10 = .ok (.iadd, 1) := dc0 (j := 10) sX8_heatThen_0 rfl op_96
theorem dX8_heatThen_11 : decode cX8_heatThen 11 = .ok (.aload_n 0, 1) := dc0 (j := 11) sX8_heatThen_0 rfl op_42
theorem dX8_heatThen_12 : decode cX8_heatThen 12 = .ok (.getfield 13, 3) := dcB (j := 12) (f := Instr.getfield) sX8_heatThen_0 rfl op_180 rfl
theorem dX8_heatThen_15 : decode cX8_heatThen 15 = .ok (.bipush 14, 2) := dcSp (j := 15) (a := 14) (f := Instr.bipush) sX8_heatThen_0 rfl op_16 rfl
theorem dX8_heatThen_17 : decode cX8_heatThen 17 = .ok (.iload_n 1, 1) := dc0 (j := 17) sX8_heatThen_0 rfl op_27
theorem dX8_heatThen_18 : decode cX8_heatThen 18 = .ok (.iadd, 1) := dc0 (j := 18) sX8_heatThen_0 rfl op_96
theorem dX8_heatThen_19 : decode cX8_heatThen 19 = .ok (.iaload, 1) := dc0 (j := 19) sX8_heatThen_0 rfl op_46
theorem dX8_heatThen_20 : decode cX8_heatThen 20 = .ok (.isub, 1) := dc0 (j := 20) sX8_heatThen_0 rfl op_100
theorem dX8_heatThen_21 : decode cX8_heatThen 21 = .ok (.istore 4, 2) := dcA (j := 21) (f := Instr.istore) sX8_heatThen_0 rfl op_54
theorem dX8_heatThen_23 : decode cX8_heatThen 23 = .ok (.iconst 0, 1) := dc0 (j := 23) sX8_heatThen_0 rfl op_3
theorem dX8_heatThen_24 : decode cX8_heatThen 24 = .ok (.istore 5, 2) := dcA (j := 24) (f := Instr.istore) sX8_heatThen_0 rfl op_54
theorem dX8_heatThen_26 : decode cX8_heatThen 26 = .ok (.iload 5, 2) := dcA (j := 26) (f := Instr.iload) sX8_heatThen_0 rfl op_21
theorem dX8_heatThen_28 : decode cX8_heatThen 28 = .ok (.aload_n 0, 1) := dc0 (j := 28) sX8_heatThen_0 rfl op_42
theorem dX8_heatThen_29 : decode cX8_heatThen 29 = .ok (.getfield 13, 3) := dcB (j := 29) (f := Instr.getfield) sX8_heatThen_0 rfl op_180 rfl
theorem dX8_heatThen_32 : decode cX8_heatThen 32 = .ok (.iconst 0, 1) := dc0 (j := 32) sX8_heatThen_0 rfl op_3
theorem dX8_heatThen_33 : decode cX8_heatThen 33 = .ok (.iaload, 1) := dc0 (j := 33) sX8_heatThen_0 rfl op_46
theorem sX8_heatThen_34 : sgm cX8_heatThen 34 [162, 0, 51, 21, 4, 28, 133, 21, 5, 184, 0, 163, 153, 0, 29, 42, 180, 0, 13, 16, 84, 21, 5, 96, 46, 27, 160, 0, 15, 42, 180, 0, 13, 7, 21, 5] := by decide +kernel
theorem dX8_heatThen_34 : decode cX8_heatThen 34 = .ok (.if_icmp .ge 51, 3) := dcTp (j := 0) (v := 51) (f := Instr.if_icmp .ge) sX8_heatThen_34 rfl op_162 rfl rfl
theorem dX8_heatThen_37 : decode cX8_heatThen 37 = .ok (.iload 4, 2) := dcA (j := 3) (f := Instr.iload) sX8_heatThen_34 rfl op_21
theorem dX8_heatThen_39 : decode cX8_heatThen 39 = .ok (.iload_n 2, 1) := dc0 (j := 5) sX8_heatThen_34 rfl op_28
theorem dX8_heatThen_40 : decode cX8_heatThen 40 = .ok (.i2l, 1) := dc0 (j := 6) sX8_heatThen_34 rfl op_133
theorem dX8_heatThen_41 : decode cX8_heatThen 41 = .ok (.iload 5, 2) := dcA (j := 7) (f := Instr.iload) sX8_heatThen_34 rfl op_21
theorem dX8_heatThen_43 : decode cX8_heatThen 43 = .ok (.invokestatic 163, 3) := dcB (j := 9) (f := Instr.invokestatic) sX8_heatThen_34 rfl op_184 rfl
theorem dX8_heatThen_46 : decode cX8_heatThen 46 = .ok (.ifCond .eq 29, 3) := dcTp (j := 12) (v := 29) (f := Instr.ifCond .eq) sX8_heatThen_34 rfl op_153 rfl rfl
theorem dX8_heatThen_49 : decode cX8_heatThen 49 = .ok (.aload_n 0, 1) := dc0 (j := 15) sX8_heatThen_34 rfl op_42
theorem dX8_heatThen_50 : decode cX8_heatThen 50 = .ok (.getfield 13, 3) := dcB (j := 16) (f := Instr.getfield) sX8_heatThen_34 rfl op_180 rfl
theorem dX8_heatThen_53 : decode cX8_heatThen 53 = .ok (.bipush 84, 2) := dcSp (j := 19) (a := 84) (f := Instr.bipush) sX8_heatThen_34 rfl op_16 rfl
theorem dX8_heatThen_55 : decode cX8_heatThen 55 = .ok (.iload 5, 2) := dcA (j := 21) (f := Instr.iload) sX8_heatThen_34 rfl op_21
theorem dX8_heatThen_57 : decode cX8_heatThen 57 = .ok (.iadd, 1) := dc0 (j := 23) sX8_heatThen_34 rfl op_96
theorem dX8_heatThen_58 : decode cX8_heatThen 58 = .ok (.iaload, 1) := dc0 (j := 24) sX8_heatThen_34 rfl op_46
theorem dX8_heatThen_59 : decode cX8_heatThen 59 = .ok (.iload_n 1, 1) := dc0 (j := 25) sX8_heatThen_34 rfl op_27
theorem dX8_heatThen_60 : decode cX8_heatThen 60 = .ok (.if_icmp .ne 15, 3) := dcTp (j := 26) (v := 15) (f := Instr.if_icmp .ne) sX8_heatThen_34 rfl op_160 rfl rfl
theorem dX8_heatThen_63 : decode cX8_heatThen 63 = .ok (.aload_n 0, 1) := dc0 (j := 29) sX8_heatThen_34 rfl op_42
theorem dX8_heatThen_64 : decode cX8_heatThen 64 = .ok (.getfield 13, 3) := dcB (j := 30) (f := Instr.getfield) sX8_heatThen_34 rfl op_180 rfl
theorem dX8_heatThen_67 : decode cX8_heatThen 67 = .ok (.iconst 4, 1) := dc0 (j := 33) sX8_heatThen_34 rfl op_7
theorem dX8_heatThen_68 : decode cX8_heatThen 68 = .ok (.iload 5, 2) := dcA (j := 34) (f := Instr.iload) sX8_heatThen_34 rfl op_21
theorem sX8_heatThen_70 : sgm cX8_heatThen 70 [96, 46, 167, 0, 4, 3, 96, 54, 4, 132, 5, 1, 167, 255, 200, 21, 4, 184, 0, 167, 172] := by decide +kernel
theorem dX8_heatThen_70 : decode cX8_heatThen 70 = .ok (.iadd, 1) := dc0 (j := 0) sX8_heatThen_70 rfl op_96
theorem dX8_heatThen_71 : decode cX8_heatThen 71 = .ok (.iaload, 1) := dc0 (j := 1) sX8_heatThen_70 rfl op_46
theorem dX8_heatThen_72 : decode cX8_heatThen 72 = .ok (.goto 4, 3) := dcTp (j := 2) (v := 4) (f := Instr.goto) sX8_heatThen_70 rfl op_167 rfl rfl
theorem dX8_heatThen_75 : decode cX8_heatThen 75 = .ok (.iconst 0, 1) := dc0 (j := 5) sX8_heatThen_70 rfl op_3
theorem dX8_heatThen_76 : decode cX8_heatThen 76 = .ok (.iadd, 1) := dc0 (j := 6) sX8_heatThen_70 rfl op_96
theorem dX8_heatThen_77 : decode cX8_heatThen 77 = .ok (.istore 4, 2) := dcA (j := 7) (f := Instr.istore) sX8_heatThen_70 rfl op_54
theorem dX8_heatThen_79 : decode cX8_heatThen 79 = .ok (.iinc 5 1, 3) := dcIp (j := 9) sX8_heatThen_70 rfl op_132 rfl
theorem dX8_heatThen_82 : decode cX8_heatThen 82 = .ok (.goto (-56), 3) := dcTn (j := 12) (v := 56) (f := Instr.goto) sX8_heatThen_70 rfl op_167 rfl rfl rfl
theorem dX8_heatThen_85 : decode cX8_heatThen 85 = .ok (.iload 4, 2) := dcA (j := 15) (f := Instr.iload) sX8_heatThen_70 rfl op_21
theorem dX8_heatThen_87 : decode cX8_heatThen 87 = .ok (.invokestatic 167, 3) := dcB (j := 17) (f := Instr.invokestatic) sX8_heatThen_70 rfl op_184 rfl
theorem dX8_heatThen_90 : decode cX8_heatThen 90 = .ok (.ireturn, 1) := dc0 (j := 20) sX8_heatThen_70 rfl op_172
theorem sX8_goes_0 : sgm cX8_goes 0 [3, 54, 5, 3, 54, 6, 21, 6, 42, 180, 0, 13, 3, 46, 162, 0, 83, 42, 180, 0, 30, 21, 6, 42, 21, 6, 27, 21, 6, 29, 160, 0, 8, 21, 4] := by decide +kernel
theorem dX8_goes_0 : decode cX8_goes 0 = .ok (.iconst 0, 1) := dc0 (j := 0) sX8_goes_0 rfl op_3
theorem dX8_goes_1 : decode cX8_goes 1 = .ok (.istore 5, 2) := dcA (j := 1) (f := Instr.istore) sX8_goes_0 rfl op_54
theorem dX8_goes_3 : decode cX8_goes 3 = .ok (.iconst 0, 1) := dc0 (j := 3) sX8_goes_0 rfl op_3
theorem dX8_goes_4 : decode cX8_goes 4 = .ok (.istore 6, 2) := dcA (j := 4) (f := Instr.istore) sX8_goes_0 rfl op_54
theorem dX8_goes_6 : decode cX8_goes 6 = .ok (.iload 6, 2) := dcA (j := 6) (f := Instr.iload) sX8_goes_0 rfl op_21
theorem dX8_goes_8 : decode cX8_goes 8 = .ok (.aload_n 0, 1) := dc0 (j := 8) sX8_goes_0 rfl op_42
theorem dX8_goes_9 : decode cX8_goes 9 = .ok (.getfield 13, 3) := dcB (j := 9) (f := Instr.getfield) sX8_goes_0 rfl op_180 rfl
theorem dX8_goes_12 : decode cX8_goes 12 = .ok (.iconst 0, 1) := dc0 (j := 12) sX8_goes_0 rfl op_3
theorem dX8_goes_13 : decode cX8_goes 13 = .ok (.iaload, 1) := dc0 (j := 13) sX8_goes_0 rfl op_46
theorem dX8_goes_14 : decode cX8_goes 14 = .ok (.if_icmp .ge 83, 3) := dcTp (j := 14) (v := 83) (f := Instr.if_icmp .ge) sX8_goes_0 rfl op_162 rfl rfl
theorem dX8_goes_17 : decode cX8_goes 17 = .ok (.aload_n 0, 1) := dc0 (j := 17) sX8_goes_0 rfl op_42
theorem dX8_goes_18 : decode cX8_goes 18 = .ok (.getfield 30, 3) := dcB (j := 18) (f := Instr.getfield) sX8_goes_0 rfl op_180 rfl
theorem dX8_goes_21 : decode cX8_goes 21 = .ok (.iload 6, 2) := dcA (j := 21) (f := Instr.iload) sX8_goes_0 rfl op_21
theorem dX8_goes_23 : decode cX8_goes 23 = .ok (.aload_n 0, 1) := dc0 (j := 23) sX8_goes_0 rfl op_42
theorem dX8_goes_24 : decode cX8_goes 24 = .ok (.iload 6, 2) := dcA (j := 24) (f := Instr.iload) sX8_goes_0 rfl op_21
theorem dX8_goes_26 : decode cX8_goes 26 = .ok (.iload_n 1, 1) := dc0 (j := 26) sX8_goes_0 rfl op_27
theorem dX8_goes_27 : decode cX8_goes 27 = .ok (.iload 6, 2) := dcA (j := 27) (f := Instr.iload) sX8_goes_0 rfl op_21
theorem dX8_goes_29 : decode cX8_goes 29 = .ok (.iload_n 3, 1) := dc0 (j := 29) sX8_goes_0 rfl op_29
theorem dX8_goes_30 : decode cX8_goes 30 = .ok (.if_icmp .ne 8, 3) := dcTp (j := 30) (v := 8) (f := Instr.if_icmp .ne) sX8_goes_0 rfl op_160 rfl rfl
theorem dX8_goes_33 : decode cX8_goes 33 = .ok (.iload 4, 2) := dcA (j := 33) (f := Instr.iload) sX8_goes_0 rfl op_21
theorem sX8_goes_35 : sgm cX8_goes 35 [167, 0, 4, 3, 182, 0, 170, 79, 28, 133, 21, 6, 184, 0, 163, 153, 0, 41, 42, 21, 6, 182, 0, 153, 154, 0, 32, 42, 21, 6, 182, 0, 174, 154, 0, 6] := by decide +kernel
theorem dX8_goes_35 : decode cX8_goes 35 = .ok (.goto 4, 3) := dcTp (j := 0) (v := 4) (f := Instr.goto) sX8_goes_35 rfl op_167 rfl rfl
theorem dX8_goes_38 : decode cX8_goes 38 = .ok (.iconst 0, 1) := dc0 (j := 3) sX8_goes_35 rfl op_3
theorem dX8_goes_39 : decode cX8_goes 39 = .ok (.invokevirtual 170, 3) := dcB (j := 4) (f := Instr.invokevirtual) sX8_goes_35 rfl op_182 rfl
theorem dX8_goes_42 : decode cX8_goes 42 = .ok (.iastore, 1) := dc0 (j := 7) sX8_goes_35 rfl op_79
theorem dX8_goes_43 : decode cX8_goes 43 = .ok (.iload_n 2, 1) := dc0 (j := 8) sX8_goes_35 rfl op_28
theorem dX8_goes_44 : decode cX8_goes 44 = .ok (.i2l, 1) := dc0 (j := 9) sX8_goes_35 rfl op_133
theorem dX8_goes_45 : decode cX8_goes 45 = .ok (.iload 6, 2) := dcA (j := 10) (f := Instr.iload) sX8_goes_35 rfl op_21
theorem dX8_goes_47 : decode cX8_goes 47 = .ok (.invokestatic 163, 3) := dcB (j := 12) (f := Instr.invokestatic) sX8_goes_35 rfl op_184 rfl
theorem dX8_goes_50 : decode cX8_goes 50 = .ok (.ifCond .eq 41, 3) := dcTp (j := 15) (v := 41) (f := Instr.ifCond .eq) sX8_goes_35 rfl op_153 rfl rfl
theorem dX8_goes_53 : decode cX8_goes 53 = .ok (.aload_n 0, 1) := dc0 (j := 18) sX8_goes_35 rfl op_42
theorem dX8_goes_54 : decode cX8_goes 54 = .ok (.iload 6, 2) := dcA (j := 19) (f := Instr.iload) sX8_goes_35 rfl op_21
theorem dX8_goes_56 : decode cX8_goes 56 = .ok (.invokevirtual 153, 3) := dcB (j := 21) (f := Instr.invokevirtual) sX8_goes_35 rfl op_182 rfl
theorem dX8_goes_59 : decode cX8_goes 59 = .ok (.ifCond .ne 32, 3) := dcTp (j := 24) (v := 32) (f := Instr.ifCond .ne) sX8_goes_35 rfl op_154 rfl rfl
theorem dX8_goes_62 : decode cX8_goes 62 = .ok (.aload_n 0, 1) := dc0 (j := 27) sX8_goes_35 rfl op_42
theorem dX8_goes_63 : decode cX8_goes 63 = .ok (.iload 6, 2) := dcA (j := 28) (f := Instr.iload) sX8_goes_35 rfl op_21
theorem dX8_goes_65 : decode cX8_goes 65 = .ok (.invokevirtual 174, 3) := dcB (j := 30) (f := Instr.invokevirtual) sX8_goes_35 rfl op_182 rfl
theorem dX8_goes_68 : decode cX8_goes 68 = .ok (.ifCond .ne 6, 3) := dcTp (j := 33) (v := 6) (f := Instr.ifCond .ne) sX8_goes_35 rfl op_154 rfl rfl
theorem sX8_goes_71 : sgm cX8_goes 71 [167, 0, 20, 42, 180, 0, 13, 16, 64, 21, 6, 96, 92, 46, 4, 96, 79, 132, 5, 1, 132, 6, 1, 167, 255, 168, 3, 54, 6, 21, 6, 42, 180, 0, 13, 3] := by decide +kernel
theorem dX8_goes_71 : decode cX8_goes 71 = .ok (.goto 20, 3) := dcTp (j := 0) (v := 20) (f := Instr.goto) sX8_goes_71 rfl op_167 rfl rfl
theorem dX8_goes_74 : decode cX8_goes 74 = .ok (.aload_n 0, 1) := dc0 (j := 3) sX8_goes_71 rfl op_42
theorem dX8_goes_75 : decode cX8_goes 75 = .ok (.getfield 13, 3) := dcB (j := 4) (f := Instr.getfield) sX8_goes_71 rfl op_180 rfl
theorem dX8_goes_78 : decode cX8_goes 78 = .ok (.bipush 64, 2) := dcSp (j := 7) (a := 64) (f := Instr.bipush) sX8_goes_71 rfl op_16 rfl
theorem dX8_goes_80 : decode cX8_goes 80 = .ok (.iload 6, 2) := dcA (j := 9) (f := Instr.iload) sX8_goes_71 rfl op_21
theorem dX8_goes_82 : decode cX8_goes 82 = .ok (.iadd, 1) := dc0 (j := 11) sX8_goes_71 rfl op_96
theorem dX8_goes_83 : decode cX8_goes 83 = .ok (.dup2, 1) := dc0 (j := 12) sX8_goes_71 rfl op_92
theorem dX8_goes_84 : decode cX8_goes 84 = .ok (.iaload, 1) := dc0 (j := 13) sX8_goes_71 rfl op_46
theorem dX8_goes_85 : decode cX8_goes 85 = .ok (.iconst 1, 1) := dc0 (j := 14) sX8_goes_71 rfl op_4
theorem dX8_goes_86 : decode cX8_goes 86 = .ok (.iadd, 1) := dc0 (j := 15) sX8_goes_71 rfl op_96
theorem dX8_goes_87 : decode cX8_goes 87 = .ok (.iastore, 1) := dc0 (j := 16) sX8_goes_71 rfl op_79
theorem dX8_goes_88 : decode cX8_goes 88 = .ok (.iinc 5 1, 3) := dcIp (j := 17) sX8_goes_71 rfl op_132 rfl
theorem dX8_goes_91 : decode cX8_goes 91 = .ok (.iinc 6 1, 3) := dcIp (j := 20) sX8_goes_71 rfl op_132 rfl
theorem dX8_goes_94 : decode cX8_goes 94 = .ok (.goto (-88), 3) := dcTn (j := 23) (v := 88) (f := Instr.goto) sX8_goes_71 rfl op_167 rfl rfl rfl
theorem dX8_goes_97 : decode cX8_goes 97 = .ok (.iconst 0, 1) := dc0 (j := 26) sX8_goes_71 rfl op_3
theorem dX8_goes_98 : decode cX8_goes 98 = .ok (.istore 6, 2) := dcA (j := 27) (f := Instr.istore) sX8_goes_71 rfl op_54
theorem dX8_goes_100 : decode cX8_goes 100 = .ok (.iload 6, 2) := dcA (j := 29) (f := Instr.iload) sX8_goes_71 rfl op_21
theorem dX8_goes_102 : decode cX8_goes 102 = .ok (.aload_n 0, 1) := dc0 (j := 31) sX8_goes_71 rfl op_42
theorem dX8_goes_103 : decode cX8_goes 103 = .ok (.getfield 13, 3) := dcB (j := 32) (f := Instr.getfield) sX8_goes_71 rfl op_180 rfl
theorem dX8_goes_106 : decode cX8_goes 106 = .ok (.iconst 0, 1) := dc0 (j := 35) sX8_goes_71 rfl op_3
theorem sX8_goes_107 : sgm cX8_goes 107 [46, 162, 0, 145, 42, 180, 0, 13, 16, 24, 21, 6, 96, 42, 180, 0, 30, 21, 6, 46, 79, 42, 21, 6, 182, 0, 153, 154, 0, 113, 42, 180, 0, 13, 16, 64] := by decide +kernel
theorem dX8_goes_107 : decode cX8_goes 107 = .ok (.iaload, 1) := dc0 (j := 0) sX8_goes_107 rfl op_46
theorem dX8_goes_108 : decode cX8_goes 108 = .ok (.if_icmp .ge 145, 3) := dcTp (j := 1) (v := 145) (f := Instr.if_icmp .ge) sX8_goes_107 rfl op_162 rfl rfl
theorem dX8_goes_111 : decode cX8_goes 111 = .ok (.aload_n 0, 1) := dc0 (j := 4) sX8_goes_107 rfl op_42
theorem dX8_goes_112 : decode cX8_goes 112 = .ok (.getfield 13, 3) := dcB (j := 5) (f := Instr.getfield) sX8_goes_107 rfl op_180 rfl
theorem dX8_goes_115 : decode cX8_goes 115 = .ok (.bipush 24, 2) := dcSp (j := 8) (a := 24) (f := Instr.bipush) sX8_goes_107 rfl op_16 rfl
theorem dX8_goes_117 : decode cX8_goes 117 = .ok (.iload 6, 2) := dcA (j := 10) (f := Instr.iload) sX8_goes_107 rfl op_21
theorem dX8_goes_119 : decode cX8_goes 119 = .ok (.iadd, 1) := dc0 (j := 12) sX8_goes_107 rfl op_96
theorem dX8_goes_120 : decode cX8_goes 120 = .ok (.aload_n 0, 1) := dc0 (j := 13) sX8_goes_107 rfl op_42
theorem dX8_goes_121 : decode cX8_goes 121 = .ok (.getfield 30, 3) := dcB (j := 14) (f := Instr.getfield) sX8_goes_107 rfl op_180 rfl
theorem dX8_goes_124 : decode cX8_goes 124 = .ok (.iload 6, 2) := dcA (j := 17) (f := Instr.iload) sX8_goes_107 rfl op_21
theorem dX8_goes_126 : decode cX8_goes 126 = .ok (.iaload, 1) := dc0 (j := 19) sX8_goes_107 rfl op_46
theorem dX8_goes_127 : decode cX8_goes 127 = .ok (.iastore, 1) := dc0 (j := 20) sX8_goes_107 rfl op_79
theorem dX8_goes_128 : decode cX8_goes 128 = .ok (.aload_n 0, 1) := dc0 (j := 21) sX8_goes_107 rfl op_42
theorem dX8_goes_129 : decode cX8_goes 129 = .ok (.iload 6, 2) := dcA (j := 22) (f := Instr.iload) sX8_goes_107 rfl op_21
theorem dX8_goes_131 : decode cX8_goes 131 = .ok (.invokevirtual 153, 3) := dcB (j := 24) (f := Instr.invokevirtual) sX8_goes_107 rfl op_182 rfl
theorem dX8_goes_134 : decode cX8_goes 134 = .ok (.ifCond .ne 113, 3) := dcTp (j := 27) (v := 113) (f := Instr.ifCond .ne) sX8_goes_107 rfl op_154 rfl rfl
theorem dX8_goes_137 : decode cX8_goes 137 = .ok (.aload_n 0, 1) := dc0 (j := 30) sX8_goes_107 rfl op_42
theorem dX8_goes_138 : decode cX8_goes 138 = .ok (.getfield 13, 3) := dcB (j := 31) (f := Instr.getfield) sX8_goes_107 rfl op_180 rfl
theorem dX8_goes_141 : decode cX8_goes 141 = .ok (.bipush 64, 2) := dcSp (j := 34) (a := 64) (f := Instr.bipush) sX8_goes_107 rfl op_16 rfl
theorem sX8_goes_143 : sgm cX8_goes 143 [21, 6, 96, 46, 153, 0, 100, 42, 180, 0, 30, 21, 6, 46, 42, 180, 0, 13, 16, 44, 21, 6, 96, 46, 163, 0, 6, 167, 0, 77, 42, 180, 0, 13, 16, 64] := by decide +kernel
theorem dX8_goes_143 : decode cX8_goes 143 = .ok (.iload 6, 2) := dcA (j := 0) (f := Instr.iload) sX8_goes_143 rfl op_21
theorem dX8_goes_145 : decode cX8_goes 145 = .ok (.iadd, 1) := dc0 (j := 2) sX8_goes_143 rfl op_96
theorem dX8_goes_146 : decode cX8_goes 146 = .ok (.iaload, 1) := dc0 (j := 3) sX8_goes_143 rfl op_46
theorem dX8_goes_147 : decode cX8_goes 147 = .ok (.ifCond .eq 100, 3) := dcTp (j := 4) (v := 100) (f := Instr.ifCond .eq) sX8_goes_143 rfl op_153 rfl rfl
theorem dX8_goes_150 : decode cX8_goes 150 = .ok (.aload_n 0, 1) := dc0 (j := 7) sX8_goes_143 rfl op_42
theorem dX8_goes_151 : decode cX8_goes 151 = .ok (.getfield 30, 3) := dcB (j := 8) (f := Instr.getfield) sX8_goes_143 rfl op_180 rfl
theorem dX8_goes_154 : decode cX8_goes 154 = .ok (.iload 6, 2) := dcA (j := 11) (f := Instr.iload) sX8_goes_143 rfl op_21
theorem dX8_goes_156 : decode cX8_goes 156 = .ok (.iaload, 1) := dc0 (j := 13) sX8_goes_143 rfl op_46
theorem dX8_goes_157 : decode cX8_goes 157 = .ok (.aload_n 0, 1) := dc0 (j := 14) sX8_goes_143 rfl op_42
theorem dX8_goes_158 : decode cX8_goes 158 = .ok (.getfield 13, 3) := dcB (j := 15) (f := Instr.getfield) sX8_goes_143 rfl op_180 rfl
theorem dX8_goes_161 : decode cX8_goes 161 = .ok (.bipush 44, 2) := dcSp (j := 18) (a := 44) (f := Instr.bipush) sX8_goes_143 rfl op_16 rfl
theorem dX8_goes_163 : decode cX8_goes 163 = .ok (.iload 6, 2) := dcA (j := 20) (f := Instr.iload) sX8_goes_143 rfl op_21
theorem dX8_goes_165 : decode cX8_goes 165 = .ok (.iadd, 1) := dc0 (j := 22) sX8_goes_143 rfl op_96
theorem dX8_goes_166 : decode cX8_goes 166 = .ok (.iaload, 1) := dc0 (j := 23) sX8_goes_143 rfl op_46
theorem dX8_goes_167 : decode cX8_goes 167 = .ok (.if_icmp .gt 6, 3) := dcTp (j := 24) (v := 6) (f := Instr.if_icmp .gt) sX8_goes_143 rfl op_163 rfl rfl
theorem dX8_goes_170 : decode cX8_goes 170 = .ok (.goto 77, 3) := dcTp (j := 27) (v := 77) (f := Instr.goto) sX8_goes_143 rfl op_167 rfl rfl
theorem dX8_goes_173 : decode cX8_goes 173 = .ok (.aload_n 0, 1) := dc0 (j := 30) sX8_goes_143 rfl op_42
theorem dX8_goes_174 : decode cX8_goes 174 = .ok (.getfield 13, 3) := dcB (j := 31) (f := Instr.getfield) sX8_goes_143 rfl op_180 rfl
theorem dX8_goes_177 : decode cX8_goes 177 = .ok (.bipush 64, 2) := dcSp (j := 34) (a := 64) (f := Instr.bipush) sX8_goes_143 rfl op_16 rfl
theorem sX8_goes_179 : sgm cX8_goes 179 [21, 6, 96, 42, 180, 0, 13, 16, 64, 21, 6, 96, 46, 42, 180, 0, 13, 5, 46, 164, 0, 23, 42, 180, 0, 13, 16, 64, 21, 6, 96, 46, 42, 180, 0, 13] := by decide +kernel
theorem dX8_goes_179 : decode cX8_goes 179 = .ok (.iload 6, 2) := dcA (j := 0) (f := Instr.iload) sX8_goes_179 rfl op_21
theorem dX8_goes_181 : decode cX8_goes 181 = .ok (.iadd, 1) := dc0 (j := 2) sX8_goes_179 rfl op_96
theorem dX8_goes_182 : decode cX8_goes 182 = .ok (.aload_n 0, 1) := dc0 (j := 3) sX8_goes_179 rfl op_42
theorem dX8_goes_183 : decode cX8_goes 183 = .ok (.getfield 13, 3) := dcB (j := 4) (f := Instr.getfield) sX8_goes_179 rfl op_180 rfl
theorem dX8_goes_186 : decode cX8_goes 186 = .ok (.bipush 64, 2) := dcSp (j := 7) (a := 64) (f := Instr.bipush) sX8_goes_179 rfl op_16 rfl
theorem dX8_goes_188 : decode cX8_goes 188 = .ok (.iload 6, 2) := dcA (j := 9) (f := Instr.iload) sX8_goes_179 rfl op_21
theorem dX8_goes_190 : decode cX8_goes 190 = .ok (.iadd, 1) := dc0 (j := 11) sX8_goes_179 rfl op_96
theorem dX8_goes_191 : decode cX8_goes 191 = .ok (.iaload, 1) := dc0 (j := 12) sX8_goes_179 rfl op_46
theorem dX8_goes_192 : decode cX8_goes 192 = .ok (.aload_n 0, 1) := dc0 (j := 13) sX8_goes_179 rfl op_42
theorem dX8_goes_193 : decode cX8_goes 193 = .ok (.getfield 13, 3) := dcB (j := 14) (f := Instr.getfield) sX8_goes_179 rfl op_180 rfl
theorem dX8_goes_196 : decode cX8_goes 196 = .ok (.iconst 2, 1) := dc0 (j := 17) sX8_goes_179 rfl op_5
theorem dX8_goes_197 : decode cX8_goes 197 = .ok (.iaload, 1) := dc0 (j := 18) sX8_goes_179 rfl op_46
theorem dX8_goes_198 : decode cX8_goes 198 = .ok (.if_icmp .le 23, 3) := dcTp (j := 19) (v := 23) (f := Instr.if_icmp .le) sX8_goes_179 rfl op_164 rfl rfl
theorem dX8_goes_201 : decode cX8_goes 201 = .ok (.aload_n 0, 1) := dc0 (j := 22) sX8_goes_179 rfl op_42
theorem dX8_goes_202 : decode cX8_goes 202 = .ok (.getfield 13, 3) := dcB (j := 23) (f := Instr.getfield) sX8_goes_179 rfl op_180 rfl
theorem dX8_goes_205 : decode cX8_goes 205 = .ok (.bipush 64, 2) := dcSp (j := 26) (a := 64) (f := Instr.bipush) sX8_goes_179 rfl op_16 rfl
theorem dX8_goes_207 : decode cX8_goes 207 = .ok (.iload 6, 2) := dcA (j := 28) (f := Instr.iload) sX8_goes_179 rfl op_21
theorem dX8_goes_209 : decode cX8_goes 209 = .ok (.iadd, 1) := dc0 (j := 30) sX8_goes_179 rfl op_96
theorem dX8_goes_210 : decode cX8_goes 210 = .ok (.iaload, 1) := dc0 (j := 31) sX8_goes_179 rfl op_46
theorem dX8_goes_211 : decode cX8_goes 211 = .ok (.aload_n 0, 1) := dc0 (j := 32) sX8_goes_179 rfl op_42
theorem dX8_goes_212 : decode cX8_goes 212 = .ok (.getfield 13, 3) := dcB (j := 33) (f := Instr.getfield) sX8_goes_179 rfl op_180 rfl
theorem sX8_goes_215 : sgm cX8_goes 215 [5, 46, 100, 167, 0, 4, 3, 79, 42, 180, 0, 13, 16, 74, 21, 6, 96, 92, 46, 4, 96, 79, 42, 89, 180, 0, 177, 4, 96, 181, 0, 177, 132, 6, 1] := by decide +kernel
theorem dX8_goes_215 : decode cX8_goes 215 = .ok (.iconst 2, 1) := dc0 (j := 0) sX8_goes_215 rfl op_5
theorem dX8_goes_216 : decode cX8_goes 216 = .ok (.iaload, 1) := dc0 (j := 1) sX8_goes_215 rfl op_46
theorem dX8_goes_217 : decode cX8_goes 217 = .ok (.isub, 1) := dc0 (j := 2) sX8_goes_215 rfl op_100
theorem dX8_goes_218 : decode cX8_goes 218 = .ok (.goto 4, 3) := dcTp (j := 3) (v := 4) (f := Instr.goto) sX8_goes_215 rfl op_167 rfl rfl
theorem dX8_goes_221 : decode cX8_goes 221 = .ok (.iconst 0, 1) := dc0 (j := 6) sX8_goes_215 rfl op_3
theorem dX8_goes_222 : decode cX8_goes 222 = .ok (.iastore, 1) := dc0 (j := 7) sX8_goes_215 rfl op_79
theorem dX8_goes_223 : decode cX8_goes 223 = .ok (.aload_n 0, 1) := dc0 (j := 8) sX8_goes_215 rfl op_42
theorem dX8_goes_224 : decode cX8_goes 224 = .ok (.getfield 13, 3) := dcB (j := 9) (f := Instr.getfield) sX8_goes_215 rfl op_180 rfl
theorem dX8_goes_227 : decode cX8_goes 227 = .ok (.bipush 74, 2) := dcSp (j := 12) (a := 74) (f := Instr.bipush) sX8_goes_215 rfl op_16 rfl
theorem dX8_goes_229 : decode cX8_goes 229 = .ok (.iload 6, 2) := dcA (j := 14) (f := Instr.iload) sX8_goes_215 rfl op_21
theorem dX8_goes_231 : decode cX8_goes 231 = .ok (.iadd, 1) := dc0 (j := 16) sX8_goes_215 rfl op_96
theorem dX8_goes_232 : decode cX8_goes 232 = .ok (.dup2, 1) := dc0 (j := 17) sX8_goes_215 rfl op_92
theorem dX8_goes_233 : decode cX8_goes 233 = .ok (.iaload, 1) := dc0 (j := 18) sX8_goes_215 rfl op_46
theorem dX8_goes_234 : decode cX8_goes 234 = .ok (.iconst 1, 1) := dc0 (j := 19) sX8_goes_215 rfl op_4
theorem dX8_goes_235 : decode cX8_goes 235 = .ok (.iadd, 1) := dc0 (j := 20) sX8_goes_215 rfl op_96
theorem dX8_goes_236 : decode cX8_goes 236 = .ok (.iastore, 1) := dc0 (j := 21) sX8_goes_215 rfl op_79
theorem dX8_goes_237 : decode cX8_goes 237 = .ok (.aload_n 0, 1) := dc0 (j := 22) sX8_goes_215 rfl op_42
theorem dX8_goes_238 : decode cX8_goes 238 = .ok (.dup, 1) := dc0 (j := 23) sX8_goes_215 rfl op_89
theorem dX8_goes_239 : decode cX8_goes 239 = .ok (.getfield 177, 3) := dcB (j := 24) (f := Instr.getfield) sX8_goes_215 rfl op_180 rfl
theorem dX8_goes_242 : decode cX8_goes 242 = .ok (.iconst 1, 1) := dc0 (j := 27) sX8_goes_215 rfl op_4
theorem dX8_goes_243 : decode cX8_goes 243 = .ok (.iadd, 1) := dc0 (j := 28) sX8_goes_215 rfl op_96
theorem dX8_goes_244 : decode cX8_goes 244 = .ok (.putfield 177, 3) := dcB (j := 29) (f := Instr.putfield) sX8_goes_215 rfl op_181 rfl
theorem dX8_goes_247 : decode cX8_goes 247 = .ok (.iinc 6 1, 3) := dcIp (j := 32) sX8_goes_215 rfl op_132 rfl
theorem sX8_goes_250 : sgm cX8_goes 250 [167, 255, 106, 42, 180, 0, 13, 4, 92, 46, 4, 96, 79, 21, 5, 172] := by decide +kernel
theorem dX8_goes_250 : decode cX8_goes 250 = .ok (.goto (-150), 3) := dcTn (j := 0) (v := 150) (f := Instr.goto) sX8_goes_250 rfl op_167 rfl rfl rfl
theorem dX8_goes_253 : decode cX8_goes 253 = .ok (.aload_n 0, 1) := dc0 (j := 3) sX8_goes_250 rfl op_42
theorem dX8_goes_254 : decode cX8_goes 254 = .ok (.getfield 13, 3) := dcB (j := 4) (f := Instr.getfield) sX8_goes_250 rfl op_180 rfl
theorem dX8_goes_257 : decode cX8_goes 257 = .ok (.iconst 1, 1) := dc0 (j := 7) sX8_goes_250 rfl op_4
theorem dX8_goes_258 : decode cX8_goes 258 = .ok (.dup2, 1) := dc0 (j := 8) sX8_goes_250 rfl op_92
theorem dX8_goes_259 : decode cX8_goes 259 = .ok (.iaload, 1) := dc0 (j := 9) sX8_goes_250 rfl op_46
theorem dX8_goes_260 : decode cX8_goes 260 = .ok (.iconst 1, 1) := dc0 (j := 10) sX8_goes_250 rfl op_4
theorem dX8_goes_261 : decode cX8_goes 261 = .ok (.iadd, 1) := dc0 (j := 11) sX8_goes_250 rfl op_96
theorem dX8_goes_262 : decode cX8_goes 262 = .ok (.iastore, 1) := dc0 (j := 12) sX8_goes_250 rfl op_79
theorem dX8_goes_263 : decode cX8_goes 263 = .ok (.iload 5, 2) := dcA (j := 13) (f := Instr.iload) sX8_goes_250 rfl op_21
theorem dX8_goes_265 : decode cX8_goes 265 = .ok (.ireturn, 1) := dc0 (j := 15) sX8_goes_250 rfl op_172
theorem sX8_isSet_0 : sgm cX8_isSet 0 [31, 9, 10, 42, 180, 0, 13, 3, 46, 121, 10, 101, 184, 0, 124, 172] := by decide +kernel
theorem dX8_isSet_0 : decode cX8_isSet 0 = .ok (.lload_n 1, 1) := dc0 (j := 0) sX8_isSet_0 rfl op_31
theorem dX8_isSet_1 : decode cX8_isSet 1 = .ok (.lconst 0, 1) := dc0 (j := 1) sX8_isSet_0 rfl op_9
theorem dX8_isSet_2 : decode cX8_isSet 2 = .ok (.lconst 1, 1) := dc0 (j := 2) sX8_isSet_0 rfl op_10
theorem dX8_isSet_3 : decode cX8_isSet 3 = .ok (.aload_n 0, 1) := dc0 (j := 3) sX8_isSet_0 rfl op_42
theorem dX8_isSet_4 : decode cX8_isSet 4 = .ok (.getfield 13, 3) := dcB (j := 4) (f := Instr.getfield) sX8_isSet_0 rfl op_180 rfl
theorem dX8_isSet_7 : decode cX8_isSet 7 = .ok (.iconst 0, 1) := dc0 (j := 7) sX8_isSet_0 rfl op_3
theorem dX8_isSet_8 : decode cX8_isSet 8 = .ok (.iaload, 1) := dc0 (j := 8) sX8_isSet_0 rfl op_46
theorem dX8_isSet_9 : decode cX8_isSet 9 = .ok (.lshl, 1) := dc0 (j := 9) sX8_isSet_0 rfl op_121
theorem dX8_isSet_10 : decode cX8_isSet 10 = .ok (.lconst 1, 1) := dc0 (j := 10) sX8_isSet_0 rfl op_10
theorem dX8_isSet_11 : decode cX8_isSet 11 = .ok (.lsub, 1) := dc0 (j := 11) sX8_isSet_0 rfl op_101
theorem dX8_isSet_12 : decode cX8_isSet 12 = .ok (.invokestatic 124, 3) := dcB (j := 12) (f := Instr.invokestatic) sX8_isSet_0 rfl op_184 rfl
theorem dX8_isSet_15 : decode cX8_isSet 15 = .ok (.ireturn, 1) := dc0 (j := 15) sX8_isSet_0 rfl op_172
theorem sX8_minute_0 : sgm cX8_minute 0 [42, 3, 181, 0, 1, 42, 27, 133, 182, 0, 180, 153, 0, 18, 42, 28, 133, 182, 0, 180, 153, 0, 9, 27, 28, 126, 153, 0, 6, 16, 253, 172, 42, 180, 0, 13] := by decide +kernel
theorem dX8_minute_0 : decode cX8_minute 0 = .ok (.aload_n 0, 1) := dc0 (j := 0) sX8_minute_0 rfl op_42
theorem dX8_minute_1 : decode cX8_minute 1 = .ok (.iconst 0, 1) := dc0 (j := 1) sX8_minute_0 rfl op_3
theorem dX8_minute_2 : decode cX8_minute 2 = .ok (.putfield 1, 3) := dcB (j := 2) (f := Instr.putfield) sX8_minute_0 rfl op_181 rfl
theorem dX8_minute_5 : decode cX8_minute 5 = .ok (.aload_n 0, 1) := dc0 (j := 5) sX8_minute_0 rfl op_42
theorem dX8_minute_6 : decode cX8_minute 6 = .ok (.iload_n 1, 1) := dc0 (j := 6) sX8_minute_0 rfl op_27
theorem dX8_minute_7 : decode cX8_minute 7 = .ok (.i2l, 1) := dc0 (j := 7) sX8_minute_0 rfl op_133
theorem dX8_minute_8 : decode cX8_minute 8 = .ok (.invokevirtual 180, 3) := dcB (j := 8) (f := Instr.invokevirtual) sX8_minute_0 rfl op_182 rfl
theorem dX8_minute_11 : decode cX8_minute 11 = .ok (.ifCond .eq 18, 3) := dcTp (j := 11) (v := 18) (f := Instr.ifCond .eq) sX8_minute_0 rfl op_153 rfl rfl
theorem dX8_minute_14 : decode cX8_minute 14 = .ok (.aload_n 0, 1) := dc0 (j := 14) sX8_minute_0 rfl op_42
theorem dX8_minute_15 : decode cX8_minute 15 = .ok (.iload_n 2, 1) := dc0 (j := 15) sX8_minute_0 rfl op_28
theorem dX8_minute_16 : decode cX8_minute 16 = .ok (.i2l, 1) := dc0 (j := 16) sX8_minute_0 rfl op_133
theorem dX8_minute_17 : decode cX8_minute 17 = .ok (.invokevirtual 180, 3) := dcB (j := 17) (f := Instr.invokevirtual) sX8_minute_0 rfl op_182 rfl
theorem dX8_minute_20 : decode cX8_minute 20 = .ok (.ifCond .eq 9, 3) := dcTp (j := 20) (v := 9) (f := Instr.ifCond .eq) sX8_minute_0 rfl op_153 rfl rfl
theorem dX8_minute_23 : decode cX8_minute 23 = .ok (.iload_n 1, 1) := dc0 (j := 23) sX8_minute_0 rfl op_27
theorem dX8_minute_24 : decode cX8_minute 24 = .ok (.iload_n 2, 1) := dc0 (j := 24) sX8_minute_0 rfl op_28
theorem dX8_minute_25 : decode cX8_minute 25 = .ok (.iand, 1) := dc0 (j := 25) sX8_minute_0 rfl op_126
theorem dX8_minute_26 : decode cX8_minute 26 = .ok (.ifCond .eq 6, 3) := dcTp (j := 26) (v := 6) (f := Instr.ifCond .eq) sX8_minute_0 rfl op_153 rfl rfl
theorem dX8_minute_29 : decode cX8_minute 29 = .ok (.bipush (-3), 2) := dcSn (j := 29) (v := 3) (f := Instr.bipush) sX8_minute_0 rfl op_16 rfl rfl rfl
theorem dX8_minute_31 : decode cX8_minute 31 = .ok (.ireturn, 1) := dc0 (j := 31) sX8_minute_0 rfl op_172
theorem dX8_minute_32 : decode cX8_minute 32 = .ok (.aload_n 0, 1) := dc0 (j := 32) sX8_minute_0 rfl op_42
theorem dX8_minute_33 : decode cX8_minute 33 = .ok (.getfield 13, 3) := dcB (j := 33) (f := Instr.getfield) sX8_minute_0 rfl op_180 rfl
theorem sX8_minute_36 : sgm cX8_minute 36 [4, 46, 17, 39, 15, 160, 0, 8, 16, 251, 167, 0, 11, 42, 27, 28, 2, 3, 182, 0, 184, 172] := by decide +kernel
theorem dX8_minute_36 : decode cX8_minute 36 = .ok (.iconst 1, 1) := dc0 (j := 0) sX8_minute_36 rfl op_4
theorem dX8_minute_37 : decode cX8_minute 37 = .ok (.iaload, 1) := dc0 (j := 1) sX8_minute_36 rfl op_46
theorem dX8_minute_38 : decode cX8_minute 38 = .ok (.sipush 9999, 3) := dcTp (j := 2) (v := 9999) (f := Instr.sipush) sX8_minute_36 rfl op_17 rfl rfl
theorem dX8_minute_41 : decode cX8_minute 41 = .ok (.if_icmp .ne 8, 3) := dcTp (j := 5) (v := 8) (f := Instr.if_icmp .ne) sX8_minute_36 rfl op_160 rfl rfl
theorem dX8_minute_44 : decode cX8_minute 44 = .ok (.bipush (-5), 2) := dcSn (j := 8) (v := 5) (f := Instr.bipush) sX8_minute_36 rfl op_16 rfl rfl rfl
theorem dX8_minute_46 : decode cX8_minute 46 = .ok (.goto 11, 3) := dcTp (j := 10) (v := 11) (f := Instr.goto) sX8_minute_36 rfl op_167 rfl rfl
theorem dX8_minute_49 : decode cX8_minute 49 = .ok (.aload_n 0, 1) := dc0 (j := 13) sX8_minute_36 rfl op_42
theorem dX8_minute_50 : decode cX8_minute 50 = .ok (.iload_n 1, 1) := dc0 (j := 14) sX8_minute_36 rfl op_27
theorem dX8_minute_51 : decode cX8_minute 51 = .ok (.iload_n 2, 1) := dc0 (j := 15) sX8_minute_36 rfl op_28
theorem dX8_minute_52 : decode cX8_minute 52 = .ok (.iconst (-1), 1) := dc0 (j := 16) sX8_minute_36 rfl op_2
theorem dX8_minute_53 : decode cX8_minute 53 = .ok (.iconst 0, 1) := dc0 (j := 17) sX8_minute_36 rfl op_3
theorem dX8_minute_54 : decode cX8_minute 54 = .ok (.invokevirtual 184, 3) := dcB (j := 18) (f := Instr.invokevirtual) sX8_minute_36 rfl op_182 rfl
theorem dX8_minute_57 : decode cX8_minute 57 = .ok (.ireturn, 1) := dc0 (j := 21) sX8_minute_36 rfl op_172
theorem sX8_keeps_0 : sgm cX8_keeps 0 [3, 60, 27, 16, 94, 162, 0, 21, 42, 180, 0, 33, 27, 42, 180, 0, 13, 27, 46, 79, 132, 1, 1, 167, 255, 235, 177] := by decide +kernel
theorem dX8_keeps_0 : decode cX8_keeps 0 = .ok (.iconst 0, 1) := dc0 (j := 0) sX8_keeps_0 rfl op_3
theorem dX8_keeps_1 : decode cX8_keeps 1 = .ok (.istore_n 1, 1) := dc0 (j := 1) sX8_keeps_0 rfl op_60
theorem dX8_keeps_2 : decode cX8_keeps 2 = .ok (.iload_n 1, 1) := dc0 (j := 2) sX8_keeps_0 rfl op_27
theorem dX8_keeps_3 : decode cX8_keeps 3 = .ok (.bipush 94, 2) := dcSp (j := 3) (a := 94) (f := Instr.bipush) sX8_keeps_0 rfl op_16 rfl
theorem dX8_keeps_5 : decode cX8_keeps 5 = .ok (.if_icmp .ge 21, 3) := dcTp (j := 5) (v := 21) (f := Instr.if_icmp .ge) sX8_keeps_0 rfl op_162 rfl rfl
theorem dX8_keeps_8 : decode cX8_keeps 8 = .ok (.aload_n 0, 1) := dc0 (j := 8) sX8_keeps_0 rfl op_42
theorem dX8_keeps_9 : decode cX8_keeps 9 = .ok (.getfield 33, 3) := dcB (j := 9) (f := Instr.getfield) sX8_keeps_0 rfl op_180 rfl
theorem dX8_keeps_12 : decode cX8_keeps 12 = .ok (.iload_n 1, 1) := dc0 (j := 12) sX8_keeps_0 rfl op_27
theorem dX8_keeps_13 : decode cX8_keeps 13 = .ok (.aload_n 0, 1) := dc0 (j := 13) sX8_keeps_0 rfl op_42
theorem dX8_keeps_14 : decode cX8_keeps 14 = .ok (.getfield 13, 3) := dcB (j := 14) (f := Instr.getfield) sX8_keeps_0 rfl op_180 rfl
theorem dX8_keeps_17 : decode cX8_keeps 17 = .ok (.iload_n 1, 1) := dc0 (j := 17) sX8_keeps_0 rfl op_27
theorem dX8_keeps_18 : decode cX8_keeps 18 = .ok (.iaload, 1) := dc0 (j := 18) sX8_keeps_0 rfl op_46
theorem dX8_keeps_19 : decode cX8_keeps 19 = .ok (.iastore, 1) := dc0 (j := 19) sX8_keeps_0 rfl op_79
theorem dX8_keeps_20 : decode cX8_keeps 20 = .ok (.iinc 1 1, 3) := dcIp (j := 20) sX8_keeps_0 rfl op_132 rfl
theorem dX8_keeps_23 : decode cX8_keeps 23 = .ok (.goto (-21), 3) := dcTn (j := 23) (v := 21) (f := Instr.goto) sX8_keeps_0 rfl op_167 rfl rfl rfl
theorem dX8_keeps_26 : decode cX8_keeps 26 = .ok (.return_, 1) := dc0 (j := 26) sX8_keeps_0 rfl op_177
theorem sX8_isAgain_0 : sgm cX8_isAgain 0 [3, 60, 27, 16, 94, 162, 0, 21, 42, 180, 0, 13, 27, 42, 180, 0, 33, 27, 46, 79, 132, 1, 1, 167, 255, 235, 177] := by decide +kernel
theorem dX8_isAgain_0 : decode cX8_isAgain 0 = .ok (.iconst 0, 1) := dc0 (j := 0) sX8_isAgain_0 rfl op_3
theorem dX8_isAgain_1 : decode cX8_isAgain 1 = .ok (.istore_n 1, 1) := dc0 (j := 1) sX8_isAgain_0 rfl op_60
theorem dX8_isAgain_2 : decode cX8_isAgain 2 = .ok (.iload_n 1, 1) := dc0 (j := 2) sX8_isAgain_0 rfl op_27
theorem dX8_isAgain_3 : decode cX8_isAgain 3 = .ok (.bipush 94, 2) := dcSp (j := 3) (a := 94) (f := Instr.bipush) sX8_isAgain_0 rfl op_16 rfl
theorem dX8_isAgain_5 : decode cX8_isAgain 5 = .ok (.if_icmp .ge 21, 3) := dcTp (j := 5) (v := 21) (f := Instr.if_icmp .ge) sX8_isAgain_0 rfl op_162 rfl rfl
theorem dX8_isAgain_8 : decode cX8_isAgain 8 = .ok (.aload_n 0, 1) := dc0 (j := 8) sX8_isAgain_0 rfl op_42
theorem dX8_isAgain_9 : decode cX8_isAgain 9 = .ok (.getfield 13, 3) := dcB (j := 9) (f := Instr.getfield) sX8_isAgain_0 rfl op_180 rfl
theorem dX8_isAgain_12 : decode cX8_isAgain 12 = .ok (.iload_n 1, 1) := dc0 (j := 12) sX8_isAgain_0 rfl op_27
theorem dX8_isAgain_13 : decode cX8_isAgain 13 = .ok (.aload_n 0, 1) := dc0 (j := 13) sX8_isAgain_0 rfl op_42
theorem dX8_isAgain_14 : decode cX8_isAgain 14 = .ok (.getfield 33, 3) := dcB (j := 14) (f := Instr.getfield) sX8_isAgain_0 rfl op_180 rfl
theorem dX8_isAgain_17 : decode cX8_isAgain 17 = .ok (.iload_n 1, 1) := dc0 (j := 17) sX8_isAgain_0 rfl op_27
theorem dX8_isAgain_18 : decode cX8_isAgain 18 = .ok (.iaload, 1) := dc0 (j := 18) sX8_isAgain_0 rfl op_46
theorem dX8_isAgain_19 : decode cX8_isAgain 19 = .ok (.iastore, 1) := dc0 (j := 19) sX8_isAgain_0 rfl op_79
theorem dX8_isAgain_20 : decode cX8_isAgain 20 = .ok (.iinc 1 1, 3) := dcIp (j := 20) sX8_isAgain_0 rfl op_132 rfl
theorem dX8_isAgain_23 : decode cX8_isAgain 23 = .ok (.goto (-21), 3) := dcTn (j := 23) (v := 21) (f := Instr.goto) sX8_isAgain_0 rfl op_167 rfl rfl rfl
theorem dX8_isAgain_26 : decode cX8_isAgain 26 = .ok (.return_, 1) := dc0 (j := 26) sX8_isAgain_0 rfl op_177
theorem sX8_whyNot_0 : sgm cX8_whyNot 0 [42, 180, 0, 61, 16, 40, 27, 104, 28, 96, 47, 66, 42, 33, 182, 0, 180, 154, 0, 5, 4, 172, 28, 4, 96, 42, 180, 0, 58, 27, 46, 160, 0, 5, 6, 172] := by decide +kernel
theorem dX8_whyNot_0 : decode cX8_whyNot 0 = .ok (.aload_n 0, 1) := dc0 (j := 0) sX8_whyNot_0 rfl op_42
theorem dX8_whyNot_1 : decode cX8_whyNot 1 = .ok (.getfield 61, 3) := dcB (j := 1) (f := Instr.getfield) sX8_whyNot_0 rfl op_180 rfl
theorem dX8_whyNot_4 : decode cX8_whyNot 4 = .ok (.bipush 40, 2) := dcSp (j := 4) (a := 40) (f := Instr.bipush) sX8_whyNot_0 rfl op_16 rfl
theorem dX8_whyNot_6 : decode cX8_whyNot 6 = .ok (.iload_n 1, 1) := dc0 (j := 6) sX8_whyNot_0 rfl op_27
theorem dX8_whyNot_7 : decode cX8_whyNot 7 = .ok (.imul, 1) := dc0 (j := 7) sX8_whyNot_0 rfl op_104
theorem dX8_whyNot_8 : decode cX8_whyNot 8 = .ok (.iload_n 2, 1) := dc0 (j := 8) sX8_whyNot_0 rfl op_28
theorem dX8_whyNot_9 : decode cX8_whyNot 9 = .ok (.iadd, 1) := dc0 (j := 9) sX8_whyNot_0 rfl op_96
theorem dX8_whyNot_10 : decode cX8_whyNot 10 = .ok (.laload, 1) := dc0 (j := 10) sX8_whyNot_0 rfl op_47
theorem dX8_whyNot_11 : decode cX8_whyNot 11 = .ok (.lstore_n 3, 1) := dc0 (j := 11) sX8_whyNot_0 rfl op_66
theorem dX8_whyNot_12 : decode cX8_whyNot 12 = .ok (.aload_n 0, 1) := dc0 (j := 12) sX8_whyNot_0 rfl op_42
theorem dX8_whyNot_13 : decode cX8_whyNot 13 = .ok (.lload_n 3, 1) := dc0 (j := 13) sX8_whyNot_0 rfl op_33
theorem dX8_whyNot_14 : decode cX8_whyNot 14 = .ok (.invokevirtual 180, 3) := dcB (j := 14) (f := Instr.invokevirtual) sX8_whyNot_0 rfl op_182 rfl
theorem dX8_whyNot_17 : decode cX8_whyNot 17 = .ok (.ifCond .ne 5, 3) := dcTp (j := 17) (v := 5) (f := Instr.ifCond .ne) sX8_whyNot_0 rfl op_154 rfl rfl
theorem dX8_whyNot_20 : decode cX8_whyNot 20 = .ok (.iconst 1, 1) := dc0 (j := 20) sX8_whyNot_0 rfl op_4
theorem dX8_whyNot_21 : decode cX8_whyNot 21 = .ok (.ireturn, 1) := dc0 (j := 21) sX8_whyNot_0 rfl op_172
theorem dX8_whyNot_22 : decode cX8_whyNot 22 = .ok (.iload_n 2, 1) := dc0 (j := 22) sX8_whyNot_0 rfl op_28
theorem dX8_whyNot_23 : decode cX8_whyNot 23 = .ok (.iconst 1, 1) := dc0 (j := 23) sX8_whyNot_0 rfl op_4
theorem dX8_whyNot_24 : decode cX8_whyNot 24 = .ok (.iadd, 1) := dc0 (j := 24) sX8_whyNot_0 rfl op_96
theorem dX8_whyNot_25 : decode cX8_whyNot 25 = .ok (.aload_n 0, 1) := dc0 (j := 25) sX8_whyNot_0 rfl op_42
theorem dX8_whyNot_26 : decode cX8_whyNot 26 = .ok (.getfield 58, 3) := dcB (j := 26) (f := Instr.getfield) sX8_whyNot_0 rfl op_180 rfl
theorem dX8_whyNot_29 : decode cX8_whyNot 29 = .ok (.iload_n 1, 1) := dc0 (j := 29) sX8_whyNot_0 rfl op_27
theorem dX8_whyNot_30 : decode cX8_whyNot 30 = .ok (.iaload, 1) := dc0 (j := 30) sX8_whyNot_0 rfl op_46
theorem dX8_whyNot_31 : decode cX8_whyNot 31 = .ok (.if_icmp .ne 5, 3) := dcTp (j := 31) (v := 5) (f := Instr.if_icmp .ne) sX8_whyNot_0 rfl op_160 rfl rfl
theorem dX8_whyNot_34 : decode cX8_whyNot 34 = .ok (.iconst 3, 1) := dc0 (j := 34) sX8_whyNot_0 rfl op_6
theorem dX8_whyNot_35 : decode cX8_whyNot 35 = .ok (.ireturn, 1) := dc0 (j := 35) sX8_whyNot_0 rfl op_172
theorem sX8_whyNot_36 : sgm cX8_whyNot 36 [42, 180, 0, 61, 16, 40, 27, 104, 28, 96, 4, 96, 47, 55, 5, 42, 22, 5, 182, 0, 180, 154, 0, 5, 4, 172, 33, 22, 5, 127, 9, 148, 153, 0, 7, 5] := by decide +kernel
theorem dX8_whyNot_36 : decode cX8_whyNot 36 = .ok (.aload_n 0, 1) := dc0 (j := 0) sX8_whyNot_36 rfl op_42
theorem dX8_whyNot_37 : decode cX8_whyNot 37 = .ok (.getfield 61, 3) := dcB (j := 1) (f := Instr.getfield) sX8_whyNot_36 rfl op_180 rfl
theorem dX8_whyNot_40 : decode cX8_whyNot 40 = .ok (.bipush 40, 2) := dcSp (j := 4) (a := 40) (f := Instr.bipush) sX8_whyNot_36 rfl op_16 rfl
theorem dX8_whyNot_42 : decode cX8_whyNot 42 = .ok (.iload_n 1, 1) := dc0 (j := 6) sX8_whyNot_36 rfl op_27
theorem dX8_whyNot_43 : decode cX8_whyNot 43 = .ok (.imul, 1) := dc0 (j := 7) sX8_whyNot_36 rfl op_104
theorem dX8_whyNot_44 : decode cX8_whyNot 44 = .ok (.iload_n 2, 1) := dc0 (j := 8) sX8_whyNot_36 rfl op_28
theorem dX8_whyNot_45 : decode cX8_whyNot 45 = .ok (.iadd, 1) := dc0 (j := 9) sX8_whyNot_36 rfl op_96
theorem dX8_whyNot_46 : decode cX8_whyNot 46 = .ok (.iconst 1, 1) := dc0 (j := 10) sX8_whyNot_36 rfl op_4
theorem dX8_whyNot_47 : decode cX8_whyNot 47 = .ok (.iadd, 1) := dc0 (j := 11) sX8_whyNot_36 rfl op_96
theorem dX8_whyNot_48 : decode cX8_whyNot 48 = .ok (.laload, 1) := dc0 (j := 12) sX8_whyNot_36 rfl op_47
theorem dX8_whyNot_49 : decode cX8_whyNot 49 = .ok (.lstore 5, 2) := dcA (j := 13) (f := Instr.lstore) sX8_whyNot_36 rfl op_55
theorem dX8_whyNot_51 : decode cX8_whyNot 51 = .ok (.aload_n 0, 1) := dc0 (j := 15) sX8_whyNot_36 rfl op_42
theorem dX8_whyNot_52 : decode cX8_whyNot 52 = .ok (.lload 5, 2) := dcA (j := 16) (f := Instr.lload) sX8_whyNot_36 rfl op_22
theorem dX8_whyNot_54 : decode cX8_whyNot 54 = .ok (.invokevirtual 180, 3) := dcB (j := 18) (f := Instr.invokevirtual) sX8_whyNot_36 rfl op_182 rfl
theorem dX8_whyNot_57 : decode cX8_whyNot 57 = .ok (.ifCond .ne 5, 3) := dcTp (j := 21) (v := 5) (f := Instr.ifCond .ne) sX8_whyNot_36 rfl op_154 rfl rfl
theorem dX8_whyNot_60 : decode cX8_whyNot 60 = .ok (.iconst 1, 1) := dc0 (j := 24) sX8_whyNot_36 rfl op_4
theorem dX8_whyNot_61 : decode cX8_whyNot 61 = .ok (.ireturn, 1) := dc0 (j := 25) sX8_whyNot_36 rfl op_172
theorem dX8_whyNot_62 : decode cX8_whyNot 62 = .ok (.lload_n 3, 1) := dc0 (j := 26) sX8_whyNot_36 rfl op_33
theorem dX8_whyNot_63 : decode cX8_whyNot 63 = .ok (.lload 5, 2) := dcA (j := 27) (f := Instr.lload) sX8_whyNot_36 rfl op_22
theorem dX8_whyNot_65 : decode cX8_whyNot 65 = .ok (.land, 1) := dc0 (j := 29) sX8_whyNot_36 rfl op_127
theorem dX8_whyNot_66 : decode cX8_whyNot 66 = .ok (.lconst 0, 1) := dc0 (j := 30) sX8_whyNot_36 rfl op_9
theorem dX8_whyNot_67 : decode cX8_whyNot 67 = .ok (.lcmp, 1) := dc0 (j := 31) sX8_whyNot_36 rfl op_148
theorem dX8_whyNot_68 : decode cX8_whyNot 68 = .ok (.ifCond .eq 7, 3) := dcTp (j := 32) (v := 7) (f := Instr.ifCond .eq) sX8_whyNot_36 rfl op_153 rfl rfl
theorem dX8_whyNot_71 : decode cX8_whyNot 71 = .ok (.iconst 2, 1) := dc0 (j := 35) sX8_whyNot_36 rfl op_5
theorem sX8_whyNot_72 : sgm cX8_whyNot 72 [167, 0, 20, 42, 180, 0, 13, 4, 46, 17, 39, 15, 160, 0, 7, 7, 167, 0, 4, 3, 172] := by decide +kernel
theorem dX8_whyNot_72 : decode cX8_whyNot 72 = .ok (.goto 20, 3) := dcTp (j := 0) (v := 20) (f := Instr.goto) sX8_whyNot_72 rfl op_167 rfl rfl
theorem dX8_whyNot_75 : decode cX8_whyNot 75 = .ok (.aload_n 0, 1) := dc0 (j := 3) sX8_whyNot_72 rfl op_42
theorem dX8_whyNot_76 : decode cX8_whyNot 76 = .ok (.getfield 13, 3) := dcB (j := 4) (f := Instr.getfield) sX8_whyNot_72 rfl op_180 rfl
theorem dX8_whyNot_79 : decode cX8_whyNot 79 = .ok (.iconst 1, 1) := dc0 (j := 7) sX8_whyNot_72 rfl op_4
theorem dX8_whyNot_80 : decode cX8_whyNot 80 = .ok (.iaload, 1) := dc0 (j := 8) sX8_whyNot_72 rfl op_46
theorem dX8_whyNot_81 : decode cX8_whyNot 81 = .ok (.sipush 9999, 3) := dcTp (j := 9) (v := 9999) (f := Instr.sipush) sX8_whyNot_72 rfl op_17 rfl rfl
theorem dX8_whyNot_84 : decode cX8_whyNot 84 = .ok (.if_icmp .ne 7, 3) := dcTp (j := 12) (v := 7) (f := Instr.if_icmp .ne) sX8_whyNot_72 rfl op_160 rfl rfl
theorem dX8_whyNot_87 : decode cX8_whyNot 87 = .ok (.iconst 4, 1) := dc0 (j := 15) sX8_whyNot_72 rfl op_7
theorem dX8_whyNot_88 : decode cX8_whyNot 88 = .ok (.goto 4, 3) := dcTp (j := 16) (v := 4) (f := Instr.goto) sX8_whyNot_72 rfl op_167 rfl rfl
theorem dX8_whyNot_91 : decode cX8_whyNot 91 = .ok (.iconst 0, 1) := dc0 (j := 19) sX8_whyNot_72 rfl op_3
theorem dX8_whyNot_92 : decode cX8_whyNot 92 = .ok (.ireturn, 1) := dc0 (j := 20) sX8_whyNot_72 rfl op_172
theorem sX8_minutesOf_0 : sgm cX8_minutesOf 0 [42, 3, 181, 0, 187, 42, 3, 181, 0, 177, 42, 3, 181, 0, 190, 3, 61, 3, 62, 29, 42, 180, 0, 58, 27, 46, 162, 0, 72, 42, 42, 27, 29, 182, 0, 193] := by decide +kernel
theorem dX8_minutesOf_0 : decode cX8_minutesOf 0 = .ok (.aload_n 0, 1) := dc0 (j := 0) sX8_minutesOf_0 rfl op_42
theorem dX8_minutesOf_1 : decode cX8_minutesOf 1 = .ok (.iconst 0, 1) := dc0 (j := 1) sX8_minutesOf_0 rfl op_3
theorem dX8_minutesOf_2 : decode cX8_minutesOf 2 = .ok (.putfield 187, 3) := dcB (j := 2) (f := Instr.putfield) sX8_minutesOf_0 rfl op_181 rfl
theorem dX8_minutesOf_5 : decode cX8_minutesOf 5 = .ok (.aload_n 0, 1) := dc0 (j := 5) sX8_minutesOf_0 rfl op_42
theorem dX8_minutesOf_6 : decode cX8_minutesOf 6 = .ok (.iconst 0, 1) := dc0 (j := 6) sX8_minutesOf_0 rfl op_3
theorem dX8_minutesOf_7 : decode cX8_minutesOf 7 = .ok (.putfield 177, 3) := dcB (j := 7) (f := Instr.putfield) sX8_minutesOf_0 rfl op_181 rfl
theorem dX8_minutesOf_10 : decode cX8_minutesOf 10 = .ok (.aload_n 0, 1) := dc0 (j := 10) sX8_minutesOf_0 rfl op_42
theorem dX8_minutesOf_11 : decode cX8_minutesOf 11 = .ok (.iconst 0, 1) := dc0 (j := 11) sX8_minutesOf_0 rfl op_3
theorem dX8_minutesOf_12 : decode cX8_minutesOf 12 = .ok (.putfield 190, 3) := dcB (j := 12) (f := Instr.putfield) sX8_minutesOf_0 rfl op_181 rfl
theorem dX8_minutesOf_15 : decode cX8_minutesOf 15 = .ok (.iconst 0, 1) := dc0 (j := 15) sX8_minutesOf_0 rfl op_3
theorem dX8_minutesOf_16 : decode cX8_minutesOf 16 = .ok (.istore_n 2, 1) := dc0 (j := 16) sX8_minutesOf_0 rfl op_61
theorem dX8_minutesOf_17 : decode cX8_minutesOf 17 = .ok (.iconst 0, 1) := dc0 (j := 17) sX8_minutesOf_0 rfl op_3
theorem dX8_minutesOf_18 : decode cX8_minutesOf 18 = .ok (.istore_n 3, 1) := dc0 (j := 18) sX8_minutesOf_0 rfl op_62
theorem dX8_minutesOf_19 : decode cX8_minutesOf 19 = .ok (.iload_n 3, 1) := dc0 (j := 19) sX8_minutesOf_0 rfl op_29
theorem dX8_minutesOf_20 : decode cX8_minutesOf 20 = .ok (.aload_n 0, 1) := dc0 (j := 20) sX8_minutesOf_0 rfl op_42
theorem dX8_minutesOf_21 : decode cX8_minutesOf 21 = .ok (.getfield 58, 3) := dcB (j := 21) (f := Instr.getfield) sX8_minutesOf_0 rfl op_180 rfl
theorem dX8_minutesOf_24 : decode cX8_minutesOf 24 = .ok (.iload_n 1, 1) := dc0 (j := 24) sX8_minutesOf_0 rfl op_27
theorem dX8_minutesOf_25 : decode cX8_minutesOf 25 = .ok (.iaload, 1) := dc0 (j := 25) sX8_minutesOf_0 rfl op_46
theorem dX8_minutesOf_26 : decode cX8_minutesOf 26 = .ok (.if_icmp .ge 72, 3) := dcTp (j := 26) (v := 72) (f := Instr.if_icmp .ge) sX8_minutesOf_0 rfl op_162 rfl rfl
theorem dX8_minutesOf_29 : decode cX8_minutesOf 29 = .ok (.aload_n 0, 1) := dc0 (j := 29) sX8_minutesOf_0 rfl op_42
theorem dX8_minutesOf_30 : decode cX8_minutesOf 30 = .ok (.aload_n 0, 1) := dc0 (j := 30) sX8_minutesOf_0 rfl op_42
theorem dX8_minutesOf_31 : decode cX8_minutesOf 31 = .ok (.iload_n 1, 1) := dc0 (j := 31) sX8_minutesOf_0 rfl op_27
theorem dX8_minutesOf_32 : decode cX8_minutesOf 32 = .ok (.iload_n 3, 1) := dc0 (j := 32) sX8_minutesOf_0 rfl op_29
theorem dX8_minutesOf_33 : decode cX8_minutesOf 33 = .ok (.invokevirtual 193, 3) := dcB (j := 33) (f := Instr.invokevirtual) sX8_minutesOf_0 rfl op_182 rfl
theorem sX8_minutesOf_36 : sgm cX8_minutesOf 36 [181, 0, 190, 42, 180, 0, 190, 153, 0, 5, 28, 172, 42, 89, 180, 0, 187, 42, 42, 180, 0, 61, 16, 40, 27, 104, 29, 96, 47, 136, 42, 180, 0, 61, 16, 40] := by decide +kernel
theorem dX8_minutesOf_36 : decode cX8_minutesOf 36 = .ok (.putfield 190, 3) := dcB (j := 0) (f := Instr.putfield) sX8_minutesOf_36 rfl op_181 rfl
theorem dX8_minutesOf_39 : decode cX8_minutesOf 39 = .ok (.aload_n 0, 1) := dc0 (j := 3) sX8_minutesOf_36 rfl op_42
theorem dX8_minutesOf_40 : decode cX8_minutesOf 40 = .ok (.getfield 190, 3) := dcB (j := 4) (f := Instr.getfield) sX8_minutesOf_36 rfl op_180 rfl
theorem dX8_minutesOf_43 : decode cX8_minutesOf 43 = .ok (.ifCond .eq 5, 3) := dcTp (j := 7) (v := 5) (f := Instr.ifCond .eq) sX8_minutesOf_36 rfl op_153 rfl rfl
theorem dX8_minutesOf_46 : decode cX8_minutesOf 46 = .ok (.iload_n 2, 1) := dc0 (j := 10) sX8_minutesOf_36 rfl op_28
theorem dX8_minutesOf_47 : decode cX8_minutesOf 47 = .ok (.ireturn, 1) := dc0 (j := 11) sX8_minutesOf_36 rfl op_172
theorem dX8_minutesOf_48 : decode cX8_minutesOf 48 = .ok (.aload_n 0, 1) := dc0 (j := 12) sX8_minutesOf_36 rfl op_42
theorem dX8_minutesOf_49 : decode cX8_minutesOf 49 = .ok (.dup, 1) := dc0 (j := 13) sX8_minutesOf_36 rfl op_89
theorem dX8_minutesOf_50 : decode cX8_minutesOf 50 = .ok (.getfield 187, 3) := dcB (j := 14) (f := Instr.getfield) sX8_minutesOf_36 rfl op_180 rfl
theorem dX8_minutesOf_53 : decode cX8_minutesOf 53 = .ok (.aload_n 0, 1) := dc0 (j := 17) sX8_minutesOf_36 rfl op_42
theorem dX8_minutesOf_54 : decode cX8_minutesOf 54 = .ok (.aload_n 0, 1) := dc0 (j := 18) sX8_minutesOf_36 rfl op_42
theorem dX8_minutesOf_55 : decode cX8_minutesOf 55 = .ok (.getfield 61, 3) := dcB (j := 19) (f := Instr.getfield) sX8_minutesOf_36 rfl op_180 rfl
theorem dX8_minutesOf_58 : decode cX8_minutesOf 58 = .ok (.bipush 40, 2) := dcSp (j := 22) (a := 40) (f := Instr.bipush) sX8_minutesOf_36 rfl op_16 rfl
theorem dX8_minutesOf_60 : decode cX8_minutesOf 60 = .ok (.iload_n 1, 1) := dc0 (j := 24) sX8_minutesOf_36 rfl op_27
theorem dX8_minutesOf_61 : decode cX8_minutesOf 61 = .ok (.imul, 1) := dc0 (j := 25) sX8_minutesOf_36 rfl op_104
theorem dX8_minutesOf_62 : decode cX8_minutesOf 62 = .ok (.iload_n 3, 1) := dc0 (j := 26) sX8_minutesOf_36 rfl op_29
theorem dX8_minutesOf_63 : decode cX8_minutesOf 63 = .ok (.iadd, 1) := dc0 (j := 27) sX8_minutesOf_36 rfl op_96
theorem dX8_minutesOf_64 : decode cX8_minutesOf 64 = .ok (.laload, 1) := dc0 (j := 28) sX8_minutesOf_36 rfl op_47
theorem dX8_minutesOf_65 : decode cX8_minutesOf 65 = .ok (.l2i, 1) := dc0 (j := 29) sX8_minutesOf_36 rfl op_136
theorem dX8_minutesOf_66 : decode cX8_minutesOf 66 = .ok (.aload_n 0, 1) := dc0 (j := 30) sX8_minutesOf_36 rfl op_42
theorem dX8_minutesOf_67 : decode cX8_minutesOf 67 = .ok (.getfield 61, 3) := dcB (j := 31) (f := Instr.getfield) sX8_minutesOf_36 rfl op_180 rfl
theorem dX8_minutesOf_70 : decode cX8_minutesOf 70 = .ok (.bipush 40, 2) := dcSp (j := 34) (a := 40) (f := Instr.bipush) sX8_minutesOf_36 rfl op_16 rfl
theorem sX8_minutesOf_72 : sgm cX8_minutesOf 72 [27, 104, 29, 96, 4, 96, 47, 136, 2, 3, 182, 0, 184, 96, 181, 0, 187, 132, 2, 1, 132, 3, 2, 167, 255, 180, 28, 172] := by decide +kernel
theorem dX8_minutesOf_72 : decode cX8_minutesOf 72 = .ok (.iload_n 1, 1) := dc0 (j := 0) sX8_minutesOf_72 rfl op_27
theorem dX8_minutesOf_73 : decode cX8_minutesOf 73 = .ok (.imul, 1) := dc0 (j := 1) sX8_minutesOf_72 rfl op_104
theorem dX8_minutesOf_74 : decode cX8_minutesOf 74 = .ok (.iload_n 3, 1) := dc0 (j := 2) sX8_minutesOf_72 rfl op_29
theorem dX8_minutesOf_75 : decode cX8_minutesOf 75 = .ok (.iadd, 1) := dc0 (j := 3) sX8_minutesOf_72 rfl op_96
theorem dX8_minutesOf_76 : decode cX8_minutesOf 76 = .ok (.iconst 1, 1) := dc0 (j := 4) sX8_minutesOf_72 rfl op_4
theorem dX8_minutesOf_77 : decode cX8_minutesOf 77 = .ok (.iadd, 1) := dc0 (j := 5) sX8_minutesOf_72 rfl op_96
theorem dX8_minutesOf_78 : decode cX8_minutesOf 78 = .ok (.laload, 1) := dc0 (j := 6) sX8_minutesOf_72 rfl op_47
theorem dX8_minutesOf_79 : decode cX8_minutesOf 79 = .ok (.l2i, 1) := dc0 (j := 7) sX8_minutesOf_72 rfl op_136
theorem dX8_minutesOf_80 : decode cX8_minutesOf 80 = .ok (.iconst (-1), 1) := dc0 (j := 8) sX8_minutesOf_72 rfl op_2
theorem dX8_minutesOf_81 : decode cX8_minutesOf 81 = .ok (.iconst 0, 1) := dc0 (j := 9) sX8_minutesOf_72 rfl op_3
theorem dX8_minutesOf_82 : decode cX8_minutesOf 82 = .ok (.invokevirtual 184, 3) := dcB (j := 10) (f := Instr.invokevirtual) sX8_minutesOf_72 rfl op_182 rfl
theorem dX8_minutesOf_85 : decode cX8_minutesOf 85 = .ok (.iadd, 1) := dc0 (j := 13) sX8_minutesOf_72 rfl op_96
theorem dX8_minutesOf_86 : decode cX8_minutesOf 86 = .ok (.putfield 187, 3) := dcB (j := 14) (f := Instr.putfield) sX8_minutesOf_72 rfl op_181 rfl
theorem dX8_minutesOf_89 : decode cX8_minutesOf 89 = .ok (.iinc 2 1, 3) := dcIp (j := 17) sX8_minutesOf_72 rfl op_132 rfl
theorem dX8_minutesOf_92 : decode cX8_minutesOf 92 = .ok (.iinc 3 2, 3) := dcIp (j := 20) sX8_minutesOf_72 rfl op_132 rfl
theorem dX8_minutesOf_95 : decode cX8_minutesOf 95 = .ok (.goto (-76), 3) := dcTn (j := 23) (v := 76) (f := Instr.goto) sX8_minutesOf_72 rfl op_167 rfl rfl rfl
theorem dX8_minutesOf_98 : decode cX8_minutesOf 98 = .ok (.iload_n 2, 1) := dc0 (j := 26) sX8_minutesOf_72 rfl op_28
theorem dX8_minutesOf_99 : decode cX8_minutesOf 99 = .ok (.ireturn, 1) := dc0 (j := 27) sX8_minutesOf_72 rfl op_172
theorem sX8_doneMany_0 : sgm cX8_doneMany 0 [3, 60, 3, 61, 28, 42, 180, 0, 13, 3, 46, 162, 0, 25, 27, 42, 28, 182, 0, 153, 153, 0, 7, 4, 167, 0, 4, 3, 96, 60, 132, 2, 1, 167, 255, 227] := by decide +kernel
theorem dX8_doneMany_0 : decode cX8_doneMany 0 = .ok (.iconst 0, 1) := dc0 (j := 0) sX8_doneMany_0 rfl op_3
theorem dX8_doneMany_1 : decode cX8_doneMany 1 = .ok (.istore_n 1, 1) := dc0 (j := 1) sX8_doneMany_0 rfl op_60
theorem dX8_doneMany_2 : decode cX8_doneMany 2 = .ok (.iconst 0, 1) := dc0 (j := 2) sX8_doneMany_0 rfl op_3
theorem dX8_doneMany_3 : decode cX8_doneMany 3 = .ok (.istore_n 2, 1) := dc0 (j := 3) sX8_doneMany_0 rfl op_61
theorem dX8_doneMany_4 : decode cX8_doneMany 4 = .ok (.iload_n 2, 1) := dc0 (j := 4) sX8_doneMany_0 rfl op_28
theorem dX8_doneMany_5 : decode cX8_doneMany 5 = .ok (.aload_n 0, 1) := dc0 (j := 5) sX8_doneMany_0 rfl op_42
theorem dX8_doneMany_6 : decode cX8_doneMany 6 = .ok (.getfield 13, 3) := dcB (j := 6) (f := Instr.getfield) sX8_doneMany_0 rfl op_180 rfl
theorem dX8_doneMany_9 : decode cX8_doneMany 9 = .ok (.iconst 0, 1) := dc0 (j := 9) sX8_doneMany_0 rfl op_3
theorem dX8_doneMany_10 : decode cX8_doneMany 10 = .ok (.iaload, 1) := dc0 (j := 10) sX8_doneMany_0 rfl op_46
theorem dX8_doneMany_11 : decode cX8_doneMany 11 = .ok (.if_icmp .ge 25, 3) := dcTp (j := 11) (v := 25) (f := Instr.if_icmp .ge) sX8_doneMany_0 rfl op_162 rfl rfl
theorem dX8_doneMany_14 : decode cX8_doneMany 14 = .ok (.iload_n 1, 1) := dc0 (j := 14) sX8_doneMany_0 rfl op_27
theorem dX8_doneMany_15 : decode cX8_doneMany 15 = .ok (.aload_n 0, 1) := dc0 (j := 15) sX8_doneMany_0 rfl op_42
theorem dX8_doneMany_16 : decode cX8_doneMany 16 = .ok (.iload_n 2, 1) := dc0 (j := 16) sX8_doneMany_0 rfl op_28
theorem dX8_doneMany_17 : decode cX8_doneMany 17 = .ok (.invokevirtual 153, 3) := dcB (j := 17) (f := Instr.invokevirtual) sX8_doneMany_0 rfl op_182 rfl
theorem dX8_doneMany_20 : decode cX8_doneMany 20 = .ok (.ifCond .eq 7, 3) := dcTp (j := 20) (v := 7) (f := Instr.ifCond .eq) sX8_doneMany_0 rfl op_153 rfl rfl
theorem dX8_doneMany_23 : decode cX8_doneMany 23 = .ok (.iconst 1, 1) := dc0 (j := 23) sX8_doneMany_0 rfl op_4
theorem dX8_doneMany_24 : decode cX8_doneMany 24 = .ok (.goto 4, 3) := dcTp (j := 24) (v := 4) (f := Instr.goto) sX8_doneMany_0 rfl op_167 rfl rfl
theorem dX8_doneMany_27 : decode cX8_doneMany 27 = .ok (.iconst 0, 1) := dc0 (j := 27) sX8_doneMany_0 rfl op_3
theorem dX8_doneMany_28 : decode cX8_doneMany 28 = .ok (.iadd, 1) := dc0 (j := 28) sX8_doneMany_0 rfl op_96
theorem dX8_doneMany_29 : decode cX8_doneMany 29 = .ok (.istore_n 1, 1) := dc0 (j := 29) sX8_doneMany_0 rfl op_60
theorem dX8_doneMany_30 : decode cX8_doneMany 30 = .ok (.iinc 2 1, 3) := dcIp (j := 30) sX8_doneMany_0 rfl op_132 rfl
theorem dX8_doneMany_33 : decode cX8_doneMany 33 = .ok (.goto (-29), 3) := dcTn (j := 33) (v := 29) (f := Instr.goto) sX8_doneMany_0 rfl op_167 rfl rfl rfl
theorem sX8_doneMany_36 : sgm cX8_doneMany 36 [27, 172] := by decide +kernel
theorem dX8_doneMany_36 : decode cX8_doneMany 36 = .ok (.iload_n 1, 1) := dc0 (j := 0) sX8_doneMany_36 rfl op_27
theorem dX8_doneMany_37 : decode cX8_doneMany 37 = .ok (.ireturn, 1) := dc0 (j := 1) sX8_doneMany_36 rfl op_172
theorem sX8_judge_0 : sgm cX8_judge 0 [42, 3, 181, 0, 1, 27, 133, 9, 20, 0, 196, 184, 0, 124, 153, 0, 15, 28, 133, 9, 20, 0, 198, 184, 0, 124, 154, 0, 6, 16, 254, 172, 42, 180, 0, 55] := by decide +kernel
theorem dX8_judge_0 : decode cX8_judge 0 = .ok (.aload_n 0, 1) := dc0 (j := 0) sX8_judge_0 rfl op_42
theorem dX8_judge_1 : decode cX8_judge 1 = .ok (.iconst 0, 1) := dc0 (j := 1) sX8_judge_0 rfl op_3
theorem dX8_judge_2 : decode cX8_judge 2 = .ok (.putfield 1, 3) := dcB (j := 2) (f := Instr.putfield) sX8_judge_0 rfl op_181 rfl
theorem dX8_judge_5 : decode cX8_judge 5 = .ok (.iload_n 1, 1) := dc0 (j := 5) sX8_judge_0 rfl op_27
theorem dX8_judge_6 : decode cX8_judge 6 = .ok (.i2l, 1) := dc0 (j := 6) sX8_judge_0 rfl op_133
theorem dX8_judge_7 : decode cX8_judge 7 = .ok (.lconst 0, 1) := dc0 (j := 7) sX8_judge_0 rfl op_9
theorem dX8_judge_8 : decode cX8_judge 8 = .ok (.ldc2_w 196, 3) := dcB (j := 8) (f := Instr.ldc2_w) sX8_judge_0 rfl op_20 rfl
theorem dX8_judge_11 : decode cX8_judge 11 = .ok (.invokestatic 124, 3) := dcB (j := 11) (f := Instr.invokestatic) sX8_judge_0 rfl op_184 rfl
theorem dX8_judge_14 : decode cX8_judge 14 = .ok (.ifCond .eq 15, 3) := dcTp (j := 14) (v := 15) (f := Instr.ifCond .eq) sX8_judge_0 rfl op_153 rfl rfl
theorem dX8_judge_17 : decode cX8_judge 17 = .ok (.iload_n 2, 1) := dc0 (j := 17) sX8_judge_0 rfl op_28
theorem dX8_judge_18 : decode cX8_judge 18 = .ok (.i2l, 1) := dc0 (j := 18) sX8_judge_0 rfl op_133
theorem dX8_judge_19 : decode cX8_judge 19 = .ok (.lconst 0, 1) := dc0 (j := 19) sX8_judge_0 rfl op_9
theorem dX8_judge_20 : decode cX8_judge 20 = .ok (.ldc2_w 198, 3) := dcB (j := 20) (f := Instr.ldc2_w) sX8_judge_0 rfl op_20 rfl
theorem dX8_judge_23 : decode cX8_judge 23 = .ok (.invokestatic 124, 3) := dcB (j := 23) (f := Instr.invokestatic) sX8_judge_0 rfl op_184 rfl
theorem dX8_judge_26 : decode cX8_judge 26 = .ok (.ifCond .ne 6, 3) := dcTp (j := 26) (v := 6) (f := Instr.ifCond .ne) sX8_judge_0 rfl op_154 rfl rfl
theorem dX8_judge_29 : decode cX8_judge 29 = .ok (.bipush (-2), 2) := dcSn (j := 29) (v := 2) (f := Instr.bipush) sX8_judge_0 rfl op_16 rfl rfl rfl
theorem dX8_judge_31 : decode cX8_judge 31 = .ok (.ireturn, 1) := dc0 (j := 31) sX8_judge_0 rfl op_172
theorem dX8_judge_32 : decode cX8_judge 32 = .ok (.aload_n 0, 1) := dc0 (j := 32) sX8_judge_0 rfl op_42
theorem dX8_judge_33 : decode cX8_judge 33 = .ok (.getfield 55, 3) := dcB (j := 33) (f := Instr.getfield) sX8_judge_0 rfl op_180 rfl
theorem sX8_judge_36 : sgm cX8_judge 36 [27, 46, 2, 160, 0, 6, 16, 250, 172, 42, 182, 0, 200, 42, 27, 182, 0, 203, 62, 42, 182, 0, 206, 54, 4, 42, 182, 0, 209, 28, 154, 0, 18, 42] := by decide +kernel
theorem dX8_judge_36 : decode cX8_judge 36 = .ok (.iload_n 1, 1) := dc0 (j := 0) sX8_judge_36 rfl op_27
theorem dX8_judge_37 : decode cX8_judge 37 = .ok (.iaload, 1) := dc0 (j := 1) sX8_judge_36 rfl op_46
theorem dX8_judge_38 : decode cX8_judge 38 = .ok (.iconst (-1), 1) := dc0 (j := 2) sX8_judge_36 rfl op_2
theorem dX8_judge_39 : decode cX8_judge 39 = .ok (.if_icmp .ne 6, 3) := dcTp (j := 3) (v := 6) (f := Instr.if_icmp .ne) sX8_judge_36 rfl op_160 rfl rfl
theorem dX8_judge_42 : decode cX8_judge 42 = .ok (.bipush (-6), 2) := dcSn (j := 6) (v := 6) (f := Instr.bipush) sX8_judge_36 rfl op_16 rfl rfl rfl
theorem dX8_judge_44 : decode cX8_judge 44 = .ok (.ireturn, 1) := dc0 (j := 8) sX8_judge_36 rfl op_172
theorem dX8_judge_45 : decode cX8_judge 45 = .ok (.aload_n 0, 1) := dc0 (j := 9) sX8_judge_36 rfl op_42
theorem dX8_judge_46 : decode cX8_judge 46 = .ok (.invokevirtual 200, 3) := dcB (j := 10) (f := Instr.invokevirtual) sX8_judge_36 rfl op_182 rfl
theorem dX8_judge_49 : decode cX8_judge 49 = .ok (.aload_n 0, 1) := dc0 (j := 13) sX8_judge_36 rfl op_42
theorem dX8_judge_50 : decode cX8_judge 50 = .ok (.iload_n 1, 1) := dc0 (j := 14) sX8_judge_36 rfl op_27
theorem dX8_judge_51 : decode cX8_judge 51 = .ok (.invokevirtual 203, 3) := dcB (j := 15) (f := Instr.invokevirtual) sX8_judge_36 rfl op_182 rfl
theorem dX8_judge_54 : decode cX8_judge 54 = .ok (.istore_n 3, 1) := dc0 (j := 18) sX8_judge_36 rfl op_62
theorem dX8_judge_55 : decode cX8_judge 55 = .ok (.aload_n 0, 1) := dc0 (j := 19) sX8_judge_36 rfl op_42
theorem dX8_judge_56 : decode cX8_judge 56 = .ok (.invokevirtual 206, 3) := dcB (j := 20) (f := Instr.invokevirtual) sX8_judge_36 rfl op_182 rfl
theorem dX8_judge_59 : decode cX8_judge 59 = .ok (.istore 4, 2) := dcA (j := 23) (f := Instr.istore) sX8_judge_36 rfl op_54
theorem dX8_judge_61 : decode cX8_judge 61 = .ok (.aload_n 0, 1) := dc0 (j := 25) sX8_judge_36 rfl op_42
theorem dX8_judge_62 : decode cX8_judge 62 = .ok (.invokevirtual 209, 3) := dcB (j := 26) (f := Instr.invokevirtual) sX8_judge_36 rfl op_182 rfl
theorem dX8_judge_65 : decode cX8_judge 65 = .ok (.iload_n 2, 1) := dc0 (j := 29) sX8_judge_36 rfl op_28
theorem dX8_judge_66 : decode cX8_judge 66 = .ok (.ifCond .ne 18, 3) := dcTp (j := 30) (v := 18) (f := Instr.ifCond .ne) sX8_judge_36 rfl op_154 rfl rfl
theorem dX8_judge_69 : decode cX8_judge 69 = .ok (.aload_n 0, 1) := dc0 (j := 33) sX8_judge_36 rfl op_42
theorem sX8_judge_70 : sgm cX8_judge 70 [180, 0, 190, 154, 0, 7, 2, 167, 0, 45, 29, 167, 0, 41, 28, 4, 160, 0, 10, 42, 180, 0, 190, 167, 0, 29, 28, 5, 160, 0, 10, 42, 180, 0, 187] := by decide +kernel
theorem dX8_judge_70 : decode cX8_judge 70 = .ok (.getfield 190, 3) := dcB (j := 0) (f := Instr.getfield) sX8_judge_70 rfl op_180 rfl
theorem dX8_judge_73 : decode cX8_judge 73 = .ok (.ifCond .ne 7, 3) := dcTp (j := 3) (v := 7) (f := Instr.ifCond .ne) sX8_judge_70 rfl op_154 rfl rfl
theorem dX8_judge_76 : decode cX8_judge 76 = .ok (.iconst (-1), 1) := dc0 (j := 6) sX8_judge_70 rfl op_2
theorem dX8_judge_77 : decode cX8_judge 77 = .ok (.goto 45, 3) := dcTp (j := 7) (v := 45) (f := Instr.goto) sX8_judge_70 rfl op_167 rfl rfl
theorem dX8_judge_80 : decode cX8_judge 80 = .ok (.iload_n 3, 1) := dc0 (j := 10) sX8_judge_70 rfl op_29
theorem dX8_judge_81 : decode cX8_judge 81 = .ok (.goto 41, 3) := dcTp (j := 11) (v := 41) (f := Instr.goto) sX8_judge_70 rfl op_167 rfl rfl
theorem dX8_judge_84 : decode cX8_judge 84 = .ok (.iload_n 2, 1) := dc0 (j := 14) sX8_judge_70 rfl op_28
theorem dX8_judge_85 : decode cX8_judge 85 = .ok (.iconst 1, 1) := dc0 (j := 15) sX8_judge_70 rfl op_4
theorem dX8_judge_86 : decode cX8_judge 86 = .ok (.if_icmp .ne 10, 3) := dcTp (j := 16) (v := 10) (f := Instr.if_icmp .ne) sX8_judge_70 rfl op_160 rfl rfl
theorem dX8_judge_89 : decode cX8_judge 89 = .ok (.aload_n 0, 1) := dc0 (j := 19) sX8_judge_70 rfl op_42
theorem dX8_judge_90 : decode cX8_judge 90 = .ok (.getfield 190, 3) := dcB (j := 20) (f := Instr.getfield) sX8_judge_70 rfl op_180 rfl
theorem dX8_judge_93 : decode cX8_judge 93 = .ok (.goto 29, 3) := dcTp (j := 23) (v := 29) (f := Instr.goto) sX8_judge_70 rfl op_167 rfl rfl
theorem dX8_judge_96 : decode cX8_judge 96 = .ok (.iload_n 2, 1) := dc0 (j := 26) sX8_judge_70 rfl op_28
theorem dX8_judge_97 : decode cX8_judge 97 = .ok (.iconst 2, 1) := dc0 (j := 27) sX8_judge_70 rfl op_5
theorem dX8_judge_98 : decode cX8_judge 98 = .ok (.if_icmp .ne 10, 3) := dcTp (j := 28) (v := 10) (f := Instr.if_icmp .ne) sX8_judge_70 rfl op_160 rfl rfl
theorem dX8_judge_101 : decode cX8_judge 101 = .ok (.aload_n 0, 1) := dc0 (j := 31) sX8_judge_70 rfl op_42
theorem dX8_judge_102 : decode cX8_judge 102 = .ok (.getfield 187, 3) := dcB (j := 32) (f := Instr.getfield) sX8_judge_70 rfl op_180 rfl
theorem sX8_judge_105 : sgm cX8_judge 105 [167, 0, 17, 28, 6, 160, 0, 8, 21, 4, 167, 0, 7, 42, 180, 0, 177, 172] := by decide +kernel
theorem dX8_judge_105 : decode cX8_judge 105 = .ok (.goto 17, 3) := dcTp (j := 0) (v := 17) (f := Instr.goto) sX8_judge_105 rfl op_167 rfl rfl
theorem dX8_judge_108 : decode cX8_judge 108 = .ok (.iload_n 2, 1) := dc0 (j := 3) sX8_judge_105 rfl op_28
theorem dX8_judge_109 : decode cX8_judge 109 = .ok (.iconst 3, 1) := dc0 (j := 4) sX8_judge_105 rfl op_6
theorem dX8_judge_110 : decode cX8_judge 110 = .ok (.if_icmp .ne 8, 3) := dcTp (j := 5) (v := 8) (f := Instr.if_icmp .ne) sX8_judge_105 rfl op_160 rfl rfl
theorem dX8_judge_113 : decode cX8_judge 113 = .ok (.iload 4, 2) := dcA (j := 8) (f := Instr.iload) sX8_judge_105 rfl op_21
theorem dX8_judge_115 : decode cX8_judge 115 = .ok (.goto 7, 3) := dcTp (j := 10) (v := 7) (f := Instr.goto) sX8_judge_105 rfl op_167 rfl rfl
theorem dX8_judge_118 : decode cX8_judge 118 = .ok (.aload_n 0, 1) := dc0 (j := 13) sX8_judge_105 rfl op_42
theorem dX8_judge_119 : decode cX8_judge 119 = .ok (.getfield 177, 3) := dcB (j := 14) (f := Instr.getfield) sX8_judge_105 rfl op_180 rfl
theorem dX8_judge_122 : decode cX8_judge 122 = .ok (.ireturn, 1) := dc0 (j := 17) sX8_judge_105 rfl op_172
theorem sX8_perform_0 : sgm cX8_perform 0 [42, 3, 181, 0, 1, 27, 133, 9, 20, 0, 196, 184, 0, 124, 154, 0, 6, 16, 254, 172, 42, 180, 0, 55, 27, 46, 2, 160, 0, 8, 16, 250, 167, 0, 8, 42] := by decide +kernel
theorem dX8_perform_0 : decode cX8_perform 0 = .ok (.aload_n 0, 1) := dc0 (j := 0) sX8_perform_0 rfl op_42
theorem dX8_perform_1 : decode cX8_perform 1 = .ok (.iconst 0, 1) := dc0 (j := 1) sX8_perform_0 rfl op_3
theorem dX8_perform_2 : decode cX8_perform 2 = .ok (.putfield 1, 3) := dcB (j := 2) (f := Instr.putfield) sX8_perform_0 rfl op_181 rfl
theorem dX8_perform_5 : decode cX8_perform 5 = .ok (.iload_n 1, 1) := dc0 (j := 5) sX8_perform_0 rfl op_27
theorem dX8_perform_6 : decode cX8_perform 6 = .ok (.i2l, 1) := dc0 (j := 6) sX8_perform_0 rfl op_133
theorem dX8_perform_7 : decode cX8_perform 7 = .ok (.lconst 0, 1) := dc0 (j := 7) sX8_perform_0 rfl op_9
theorem dX8_perform_8 : decode cX8_perform 8 = .ok (.ldc2_w 196, 3) := dcB (j := 8) (f := Instr.ldc2_w) sX8_perform_0 rfl op_20 rfl
theorem dX8_perform_11 : decode cX8_perform 11 = .ok (.invokestatic 124, 3) := dcB (j := 11) (f := Instr.invokestatic) sX8_perform_0 rfl op_184 rfl
theorem dX8_perform_14 : decode cX8_perform 14 = .ok (.ifCond .ne 6, 3) := dcTp (j := 14) (v := 6) (f := Instr.ifCond .ne) sX8_perform_0 rfl op_154 rfl rfl
theorem dX8_perform_17 : decode cX8_perform 17 = .ok (.bipush (-2), 2) := dcSn (j := 17) (v := 2) (f := Instr.bipush) sX8_perform_0 rfl op_16 rfl rfl rfl
theorem dX8_perform_19 : decode cX8_perform 19 = .ok (.ireturn, 1) := dc0 (j := 19) sX8_perform_0 rfl op_172
theorem dX8_perform_20 : decode cX8_perform 20 = .ok (.aload_n 0, 1) := dc0 (j := 20) sX8_perform_0 rfl op_42
theorem dX8_perform_21 : decode cX8_perform 21 = .ok (.getfield 55, 3) := dcB (j := 21) (f := Instr.getfield) sX8_perform_0 rfl op_180 rfl
theorem dX8_perform_24 : decode cX8_perform 24 = .ok (.iload_n 1, 1) := dc0 (j := 24) sX8_perform_0 rfl op_27
theorem dX8_perform_25 : decode cX8_perform 25 = .ok (.iaload, 1) := dc0 (j := 25) sX8_perform_0 rfl op_46
theorem dX8_perform_26 : decode cX8_perform 26 = .ok (.iconst (-1), 1) := dc0 (j := 26) sX8_perform_0 rfl op_2
theorem dX8_perform_27 : decode cX8_perform 27 = .ok (.if_icmp .ne 8, 3) := dcTp (j := 27) (v := 8) (f := Instr.if_icmp .ne) sX8_perform_0 rfl op_160 rfl rfl
theorem dX8_perform_30 : decode cX8_perform 30 = .ok (.bipush (-6), 2) := dcSn (j := 30) (v := 6) (f := Instr.bipush) sX8_perform_0 rfl op_16 rfl rfl rfl
theorem dX8_perform_32 : decode cX8_perform 32 = .ok (.goto 8, 3) := dcTp (j := 32) (v := 8) (f := Instr.goto) sX8_perform_0 rfl op_167 rfl rfl
theorem dX8_perform_35 : decode cX8_perform 35 = .ok (.aload_n 0, 1) := dc0 (j := 35) sX8_perform_0 rfl op_42
theorem sX8_perform_36 : sgm cX8_perform 36 [27, 182, 0, 203, 172] := by decide +kernel
theorem dX8_perform_36 : decode cX8_perform 36 = .ok (.iload_n 1, 1) := dc0 (j := 0) sX8_perform_36 rfl op_27
theorem dX8_perform_37 : decode cX8_perform 37 = .ok (.invokevirtual 203, 3) := dcB (j := 1) (f := Instr.invokevirtual) sX8_perform_36 rfl op_182 rfl
theorem dX8_perform_40 : decode cX8_perform 40 = .ok (.ireturn, 1) := dc0 (j := 4) sX8_perform_36 rfl op_172
theorem sX8_lives_0 : sgm cX8_lives 0 [3, 54, 5, 3, 54, 6, 21, 6, 27, 162, 0, 189, 3, 54, 7, 3, 54, 8, 3, 54, 9, 21, 9, 42, 180, 0, 13, 3, 46, 162, 0, 102, 21, 9, 28] := by decide +kernel
theorem dX8_lives_0 : decode cX8_lives 0 = .ok (.iconst 0, 1) := dc0 (j := 0) sX8_lives_0 rfl op_3
theorem dX8_lives_1 : decode cX8_lives 1 = .ok (.istore 5, 2) := dcA (j := 1) (f := Instr.istore) sX8_lives_0 rfl op_54
theorem dX8_lives_3 : decode cX8_lives 3 = .ok (.iconst 0, 1) := dc0 (j := 3) sX8_lives_0 rfl op_3
theorem dX8_lives_4 : decode cX8_lives 4 = .ok (.istore 6, 2) := dcA (j := 4) (f := Instr.istore) sX8_lives_0 rfl op_54
theorem dX8_lives_6 : decode cX8_lives 6 = .ok (.iload 6, 2) := dcA (j := 6) (f := Instr.iload) sX8_lives_0 rfl op_21
theorem dX8_lives_8 : decode cX8_lives 8 = .ok (.iload_n 1, 1) := dc0 (j := 8) sX8_lives_0 rfl op_27
theorem dX8_lives_9 : decode cX8_lives 9 = .ok (.if_icmp .ge 189, 3) := dcTp (j := 9) (v := 189) (f := Instr.if_icmp .ge) sX8_lives_0 rfl op_162 rfl rfl
theorem dX8_lives_12 : decode cX8_lives 12 = .ok (.iconst 0, 1) := dc0 (j := 12) sX8_lives_0 rfl op_3
theorem dX8_lives_13 : decode cX8_lives 13 = .ok (.istore 7, 2) := dcA (j := 13) (f := Instr.istore) sX8_lives_0 rfl op_54
theorem dX8_lives_15 : decode cX8_lives 15 = .ok (.iconst 0, 1) := dc0 (j := 15) sX8_lives_0 rfl op_3
theorem dX8_lives_16 : decode cX8_lives 16 = .ok (.istore 8, 2) := dcA (j := 16) (f := Instr.istore) sX8_lives_0 rfl op_54
theorem dX8_lives_18 : decode cX8_lives 18 = .ok (.iconst 0, 1) := dc0 (j := 18) sX8_lives_0 rfl op_3
theorem dX8_lives_19 : decode cX8_lives 19 = .ok (.istore 9, 2) := dcA (j := 19) (f := Instr.istore) sX8_lives_0 rfl op_54
theorem dX8_lives_21 : decode cX8_lives 21 = .ok (.iload 9, 2) := dcA (j := 21) (f := Instr.iload) sX8_lives_0 rfl op_21
theorem dX8_lives_23 : decode cX8_lives 23 = .ok (.aload_n 0, 1) := dc0 (j := 23) sX8_lives_0 rfl op_42
theorem dX8_lives_24 : decode cX8_lives 24 = .ok (.getfield 13, 3) := dcB (j := 24) (f := Instr.getfield) sX8_lives_0 rfl op_180 rfl
theorem dX8_lives_27 : decode cX8_lives 27 = .ok (.iconst 0, 1) := dc0 (j := 27) sX8_lives_0 rfl op_3
theorem dX8_lives_28 : decode cX8_lives 28 = .ok (.iaload, 1) := dc0 (j := 28) sX8_lives_0 rfl op_46
theorem dX8_lives_29 : decode cX8_lives 29 = .ok (.if_icmp .ge 102, 3) := dcTp (j := 29) (v := 102) (f := Instr.if_icmp .ge) sX8_lives_0 rfl op_162 rfl rfl
theorem dX8_lives_32 : decode cX8_lives 32 = .ok (.iload 9, 2) := dcA (j := 32) (f := Instr.iload) sX8_lives_0 rfl op_21
theorem dX8_lives_34 : decode cX8_lives 34 = .ok (.iload_n 2, 1) := dc0 (j := 34) sX8_lives_0 rfl op_28
theorem sX8_lives_35 : sgm cX8_lives 35 [160, 0, 6, 167, 0, 87, 42, 180, 0, 13, 16, 84, 21, 9, 96, 46, 54, 10, 42, 21, 9, 182, 0, 174, 153, 0, 24, 42, 21, 9, 182, 0, 153, 154, 0, 15] := by decide +kernel
theorem dX8_lives_35 : decode cX8_lives 35 = .ok (.if_icmp .ne 6, 3) := dcTp (j := 0) (v := 6) (f := Instr.if_icmp .ne) sX8_lives_35 rfl op_160 rfl rfl
theorem dX8_lives_38 : decode cX8_lives 38 = .ok (.goto 87, 3) := dcTp (j := 3) (v := 87) (f := Instr.goto) sX8_lives_35 rfl op_167 rfl rfl
theorem dX8_lives_41 : decode cX8_lives 41 = .ok (.aload_n 0, 1) := dc0 (j := 6) sX8_lives_35 rfl op_42
theorem dX8_lives_42 : decode cX8_lives 42 = .ok (.getfield 13, 3) := dcB (j := 7) (f := Instr.getfield) sX8_lives_35 rfl op_180 rfl
theorem dX8_lives_45 : decode cX8_lives 45 = .ok (.bipush 84, 2) := dcSp (j := 10) (a := 84) (f := Instr.bipush) sX8_lives_35 rfl op_16 rfl
theorem dX8_lives_47 : decode cX8_lives 47 = .ok (.iload 9, 2) := dcA (j := 12) (f := Instr.iload) sX8_lives_35 rfl op_21
theorem dX8_lives_49 : decode cX8_lives 49 = .ok (.iadd, 1) := dc0 (j := 14) sX8_lives_35 rfl op_96
theorem dX8_lives_50 : decode cX8_lives 50 = .ok (.iaload, 1) := dc0 (j := 15) sX8_lives_35 rfl op_46
theorem dX8_lives_51 : decode cX8_lives 51 = .ok (.istore 10, 2) := dcA (j := 16) (f := Instr.istore) sX8_lives_35 rfl op_54
theorem dX8_lives_53 : decode cX8_lives 53 = .ok (.aload_n 0, 1) := dc0 (j := 18) sX8_lives_35 rfl op_42
theorem dX8_lives_54 : decode cX8_lives 54 = .ok (.iload 9, 2) := dcA (j := 19) (f := Instr.iload) sX8_lives_35 rfl op_21
theorem dX8_lives_56 : decode cX8_lives 56 = .ok (.invokevirtual 174, 3) := dcB (j := 21) (f := Instr.invokevirtual) sX8_lives_35 rfl op_182 rfl
theorem dX8_lives_59 : decode cX8_lives 59 = .ok (.ifCond .eq 24, 3) := dcTp (j := 24) (v := 24) (f := Instr.ifCond .eq) sX8_lives_35 rfl op_153 rfl rfl
theorem dX8_lives_62 : decode cX8_lives 62 = .ok (.aload_n 0, 1) := dc0 (j := 27) sX8_lives_35 rfl op_42
theorem dX8_lives_63 : decode cX8_lives 63 = .ok (.iload 9, 2) := dcA (j := 28) (f := Instr.iload) sX8_lives_35 rfl op_21
theorem dX8_lives_65 : decode cX8_lives 65 = .ok (.invokevirtual 153, 3) := dcB (j := 30) (f := Instr.invokevirtual) sX8_lives_35 rfl op_182 rfl
theorem dX8_lives_68 : decode cX8_lives 68 = .ok (.ifCond .ne 15, 3) := dcTp (j := 33) (v := 15) (f := Instr.ifCond .ne) sX8_lives_35 rfl op_154 rfl rfl
theorem sX8_lives_71 : sgm cX8_lives 71 [21, 8, 4, 21, 9, 120, 128, 54, 8, 167, 0, 45, 42, 180, 0, 13, 16, 24, 21, 10, 96, 46, 42, 180, 0, 13, 7, 21, 9, 96, 46, 96, 42, 180, 0, 13] := by decide +kernel
theorem dX8_lives_71 : decode cX8_lives 71 = .ok (.iload 8, 2) := dcA (j := 0) (f := Instr.iload) sX8_lives_71 rfl op_21
theorem dX8_lives_73 : decode cX8_lives 73 = .ok (.iconst 1, 1) := dc0 (j := 2) sX8_lives_71 rfl op_4
theorem dX8_lives_74 : decode cX8_lives 74 = .ok (.iload 9, 2) := dcA (j := 3) (f := Instr.iload) sX8_lives_71 rfl op_21
theorem dX8_lives_76 : decode cX8_lives 76 = .ok (.ishl, 1) := dc0 (j := 5) sX8_lives_71 rfl op_120
theorem dX8_lives_77 : decode cX8_lives 77 = .ok (.ior, 1) := dc0 (j := 6) sX8_lives_71 rfl op_128
theorem dX8_lives_78 : decode cX8_lives 78 = .ok (.istore 8, 2) := dcA (j := 7) (f := Instr.istore) sX8_lives_71 rfl op_54
theorem dX8_lives_80 : decode cX8_lives 80 = .ok (.goto 45, 3) := dcTp (j := 9) (v := 45) (f := Instr.goto) sX8_lives_71 rfl op_167 rfl rfl
theorem dX8_lives_83 : decode cX8_lives 83 = .ok (.aload_n 0, 1) := dc0 (j := 12) sX8_lives_71 rfl op_42
theorem dX8_lives_84 : decode cX8_lives 84 = .ok (.getfield 13, 3) := dcB (j := 13) (f := Instr.getfield) sX8_lives_71 rfl op_180 rfl
theorem dX8_lives_87 : decode cX8_lives 87 = .ok (.bipush 24, 2) := dcSp (j := 16) (a := 24) (f := Instr.bipush) sX8_lives_71 rfl op_16 rfl
theorem dX8_lives_89 : decode cX8_lives 89 = .ok (.iload 10, 2) := dcA (j := 18) (f := Instr.iload) sX8_lives_71 rfl op_21
theorem dX8_lives_91 : decode cX8_lives 91 = .ok (.iadd, 1) := dc0 (j := 20) sX8_lives_71 rfl op_96
theorem dX8_lives_92 : decode cX8_lives 92 = .ok (.iaload, 1) := dc0 (j := 21) sX8_lives_71 rfl op_46
theorem dX8_lives_93 : decode cX8_lives 93 = .ok (.aload_n 0, 1) := dc0 (j := 22) sX8_lives_71 rfl op_42
theorem dX8_lives_94 : decode cX8_lives 94 = .ok (.getfield 13, 3) := dcB (j := 23) (f := Instr.getfield) sX8_lives_71 rfl op_180 rfl
theorem dX8_lives_97 : decode cX8_lives 97 = .ok (.iconst 4, 1) := dc0 (j := 26) sX8_lives_71 rfl op_7
theorem dX8_lives_98 : decode cX8_lives 98 = .ok (.iload 9, 2) := dcA (j := 27) (f := Instr.iload) sX8_lives_71 rfl op_21
theorem dX8_lives_100 : decode cX8_lives 100 = .ok (.iadd, 1) := dc0 (j := 29) sX8_lives_71 rfl op_96
theorem dX8_lives_101 : decode cX8_lives 101 = .ok (.iaload, 1) := dc0 (j := 30) sX8_lives_71 rfl op_46
theorem dX8_lives_102 : decode cX8_lives 102 = .ok (.iadd, 1) := dc0 (j := 31) sX8_lives_71 rfl op_96
theorem dX8_lives_103 : decode cX8_lives 103 = .ok (.aload_n 0, 1) := dc0 (j := 32) sX8_lives_71 rfl op_42
theorem dX8_lives_104 : decode cX8_lives 104 = .ok (.getfield 13, 3) := dcB (j := 33) (f := Instr.getfield) sX8_lives_71 rfl op_180 rfl
theorem sX8_lives_107 : sgm cX8_lives 107 [16, 44, 21, 10, 96, 46, 163, 0, 12, 21, 7, 4, 21, 9, 120, 128, 54, 7, 132, 9, 1, 167, 255, 149, 29, 2, 159, 0, 31, 42, 180, 0, 13, 16, 24, 29] := by decide +kernel
theorem dX8_lives_107 : decode cX8_lives 107 = .ok (.bipush 44, 2) := dcSp (j := 0) (a := 44) (f := Instr.bipush) sX8_lives_107 rfl op_16 rfl
theorem dX8_lives_109 : decode cX8_lives 109 = .ok (.iload 10, 2) := dcA (j := 2) (f := Instr.iload) sX8_lives_107 rfl op_21
theorem dX8_lives_111 : decode cX8_lives 111 = .ok (.iadd, 1) := dc0 (j := 4) sX8_lives_107 rfl op_96
theorem dX8_lives_112 : decode cX8_lives 112 = .ok (.iaload, 1) := dc0 (j := 5) sX8_lives_107 rfl op_46
theorem dX8_lives_113 : decode cX8_lives 113 = .ok (.if_icmp .gt 12, 3) := dcTp (j := 6) (v := 12) (f := Instr.if_icmp .gt) sX8_lives_107 rfl op_163 rfl rfl
theorem dX8_lives_116 : decode cX8_lives 116 = .ok (.iload 7, 2) := dcA (j := 9) (f := Instr.iload) sX8_lives_107 rfl op_21
theorem dX8_lives_118 : decode cX8_lives 118 = .ok (.iconst 1, 1) := dc0 (j := 11) sX8_lives_107 rfl op_4
theorem dX8_lives_119 : decode cX8_lives 119 = .ok (.iload 9, 2) := dcA (j := 12) (f := Instr.iload) sX8_lives_107 rfl op_21
theorem dX8_lives_121 : decode cX8_lives 121 = .ok (.ishl, 1) := dc0 (j := 14) sX8_lives_107 rfl op_120
theorem dX8_lives_122 : decode cX8_lives 122 = .ok (.ior, 1) := dc0 (j := 15) sX8_lives_107 rfl op_128
theorem dX8_lives_123 : decode cX8_lives 123 = .ok (.istore 7, 2) := dcA (j := 16) (f := Instr.istore) sX8_lives_107 rfl op_54
theorem dX8_lives_125 : decode cX8_lives 125 = .ok (.iinc 9 1, 3) := dcIp (j := 18) sX8_lives_107 rfl op_132 rfl
theorem dX8_lives_128 : decode cX8_lives 128 = .ok (.goto (-107), 3) := dcTn (j := 21) (v := 107) (f := Instr.goto) sX8_lives_107 rfl op_167 rfl rfl rfl
theorem dX8_lives_131 : decode cX8_lives 131 = .ok (.iload_n 3, 1) := dc0 (j := 24) sX8_lives_107 rfl op_29
theorem dX8_lives_132 : decode cX8_lives 132 = .ok (.iconst (-1), 1) := dc0 (j := 25) sX8_lives_107 rfl op_2
theorem dX8_lives_133 : decode cX8_lives 133 = .ok (.if_icmp .eq 31, 3) := dcTp (j := 26) (v := 31) (f := Instr.if_icmp .eq) sX8_lives_107 rfl op_159 rfl rfl
theorem dX8_lives_136 : decode cX8_lives 136 = .ok (.aload_n 0, 1) := dc0 (j := 29) sX8_lives_107 rfl op_42
theorem dX8_lives_137 : decode cX8_lives 137 = .ok (.getfield 13, 3) := dcB (j := 30) (f := Instr.getfield) sX8_lives_107 rfl op_180 rfl
theorem dX8_lives_140 : decode cX8_lives 140 = .ok (.bipush 24, 2) := dcSp (j := 33) (a := 24) (f := Instr.bipush) sX8_lives_107 rfl op_16 rfl
theorem dX8_lives_142 : decode cX8_lives 142 = .ok (.iload_n 3, 1) := dc0 (j := 35) sX8_lives_107 rfl op_29
theorem sX8_lives_143 : sgm cX8_lives 143 [96, 46, 21, 4, 96, 42, 180, 0, 13, 16, 44, 29, 96, 46, 163, 0, 7, 4, 167, 0, 4, 3, 54, 9, 21, 5, 42, 21, 7, 21, 8, 29, 21, 9] := by decide +kernel
theorem dX8_lives_143 : decode cX8_lives 143 = .ok (.iadd, 1) := dc0 (j := 0) sX8_lives_143 rfl op_96
theorem dX8_lives_144 : decode cX8_lives 144 = .ok (.iaload, 1) := dc0 (j := 1) sX8_lives_143 rfl op_46
theorem dX8_lives_145 : decode cX8_lives 145 = .ok (.iload 4, 2) := dcA (j := 2) (f := Instr.iload) sX8_lives_143 rfl op_21
theorem dX8_lives_147 : decode cX8_lives 147 = .ok (.iadd, 1) := dc0 (j := 4) sX8_lives_143 rfl op_96
theorem dX8_lives_148 : decode cX8_lives 148 = .ok (.aload_n 0, 1) := dc0 (j := 5) sX8_lives_143 rfl op_42
theorem dX8_lives_149 : decode cX8_lives 149 = .ok (.getfield 13, 3) := dcB (j := 6) (f := Instr.getfield) sX8_lives_143 rfl op_180 rfl
theorem dX8_lives_152 : decode cX8_lives 152 = .ok (.bipush 44, 2) := dcSp (j := 9) (a := 44) (f := Instr.bipush) sX8_lives_143 rfl op_16 rfl
theorem dX8_lives_154 : decode cX8_lives 154 = .ok (.iload_n 3, 1) := dc0 (j := 11) sX8_lives_143 rfl op_29
theorem dX8_lives_155 : decode cX8_lives 155 = .ok (.iadd, 1) := dc0 (j := 12) sX8_lives_143 rfl op_96
theorem dX8_lives_156 : decode cX8_lives 156 = .ok (.iaload, 1) := dc0 (j := 13) sX8_lives_143 rfl op_46
theorem dX8_lives_157 : decode cX8_lives 157 = .ok (.if_icmp .gt 7, 3) := dcTp (j := 14) (v := 7) (f := Instr.if_icmp .gt) sX8_lives_143 rfl op_163 rfl rfl
theorem dX8_lives_160 : decode cX8_lives 160 = .ok (.iconst 1, 1) := dc0 (j := 17) sX8_lives_143 rfl op_4
theorem dX8_lives_161 : decode cX8_lives 161 = .ok (.goto 4, 3) := dcTp (j := 18) (v := 4) (f := Instr.goto) sX8_lives_143 rfl op_167 rfl rfl
theorem dX8_lives_164 : decode cX8_lives 164 = .ok (.iconst 0, 1) := dc0 (j := 21) sX8_lives_143 rfl op_3
theorem dX8_lives_165 : decode cX8_lives 165 = .ok (.istore 9, 2) := dcA (j := 22) (f := Instr.istore) sX8_lives_143 rfl op_54
theorem dX8_lives_167 : decode cX8_lives 167 = .ok (.iload 5, 2) := dcA (j := 24) (f := Instr.iload) sX8_lives_143 rfl op_21
theorem dX8_lives_169 : decode cX8_lives 169 = .ok (.aload_n 0, 1) := dc0 (j := 26) sX8_lives_143 rfl op_42
theorem dX8_lives_170 : decode cX8_lives 170 = .ok (.iload 7, 2) := dcA (j := 27) (f := Instr.iload) sX8_lives_143 rfl op_21
theorem dX8_lives_172 : decode cX8_lives 172 = .ok (.iload 8, 2) := dcA (j := 29) (f := Instr.iload) sX8_lives_143 rfl op_21
theorem dX8_lives_174 : decode cX8_lives 174 = .ok (.iload_n 3, 1) := dc0 (j := 31) sX8_lives_143 rfl op_29
theorem dX8_lives_175 : decode cX8_lives 175 = .ok (.iload 9, 2) := dcA (j := 32) (f := Instr.iload) sX8_lives_143 rfl op_21
theorem sX8_lives_177 : sgm cX8_lives 177 [153, 0, 8, 21, 4, 167, 0, 4, 3, 182, 0, 184, 96, 54, 5, 132, 6, 1, 167, 255, 67, 21, 5, 172] := by decide +kernel
theorem dX8_lives_177 : decode cX8_lives 177 = .ok (.ifCond .eq 8, 3) := dcTp (j := 0) (v := 8) (f := Instr.ifCond .eq) sX8_lives_177 rfl op_153 rfl rfl
theorem dX8_lives_180 : decode cX8_lives 180 = .ok (.iload 4, 2) := dcA (j := 3) (f := Instr.iload) sX8_lives_177 rfl op_21
theorem dX8_lives_182 : decode cX8_lives 182 = .ok (.goto 4, 3) := dcTp (j := 5) (v := 4) (f := Instr.goto) sX8_lives_177 rfl op_167 rfl rfl
theorem dX8_lives_185 : decode cX8_lives 185 = .ok (.iconst 0, 1) := dc0 (j := 8) sX8_lives_177 rfl op_3
theorem dX8_lives_186 : decode cX8_lives 186 = .ok (.invokevirtual 184, 3) := dcB (j := 9) (f := Instr.invokevirtual) sX8_lives_177 rfl op_182 rfl
theorem dX8_lives_189 : decode cX8_lives 189 = .ok (.iadd, 1) := dc0 (j := 12) sX8_lives_177 rfl op_96
theorem dX8_lives_190 : decode cX8_lives 190 = .ok (.istore 5, 2) := dcA (j := 13) (f := Instr.istore) sX8_lives_177 rfl op_54
theorem dX8_lives_192 : decode cX8_lives 192 = .ok (.iinc 6 1, 3) := dcIp (j := 15) sX8_lives_177 rfl op_132 rfl
theorem dX8_lives_195 : decode cX8_lives 195 = .ok (.goto (-189), 3) := dcTn (j := 18) (v := 189) (f := Instr.goto) sX8_lives_177 rfl op_167 rfl rfl rfl
theorem dX8_lives_198 : decode cX8_lives 198 = .ok (.iload 5, 2) := dcA (j := 21) (f := Instr.iload) sX8_lives_177 rfl op_21
theorem dX8_lives_200 : decode cX8_lives 200 = .ok (.ireturn, 1) := dc0 (j := 23) sX8_lives_177 rfl op_172
theorem sX8_doneBy_0 : sgm cX8_doneBy 0 [42, 182, 0, 200, 42, 27, 28, 29, 21, 4, 182, 0, 212, 87, 42, 182, 0, 206, 54, 5, 42, 182, 0, 209, 21, 5, 172] := by decide +kernel
theorem dX8_doneBy_0 : decode cX8_doneBy 0 = .ok (.aload_n 0, 1) := dc0 (j := 0) sX8_doneBy_0 rfl op_42
theorem dX8_doneBy_1 : decode cX8_doneBy 1 = .ok (.invokevirtual 200, 3) := dcB (j := 1) (f := Instr.invokevirtual) sX8_doneBy_0 rfl op_182 rfl
theorem dX8_doneBy_4 : decode cX8_doneBy 4 = .ok (.aload_n 0, 1) := dc0 (j := 4) sX8_doneBy_0 rfl op_42
theorem dX8_doneBy_5 : decode cX8_doneBy 5 = .ok (.iload_n 1, 1) := dc0 (j := 5) sX8_doneBy_0 rfl op_27
theorem dX8_doneBy_6 : decode cX8_doneBy 6 = .ok (.iload_n 2, 1) := dc0 (j := 6) sX8_doneBy_0 rfl op_28
theorem dX8_doneBy_7 : decode cX8_doneBy 7 = .ok (.iload_n 3, 1) := dc0 (j := 7) sX8_doneBy_0 rfl op_29
theorem dX8_doneBy_8 : decode cX8_doneBy 8 = .ok (.iload 4, 2) := dcA (j := 8) (f := Instr.iload) sX8_doneBy_0 rfl op_21
theorem dX8_doneBy_10 : decode cX8_doneBy 10 = .ok (.invokevirtual 212, 3) := dcB (j := 10) (f := Instr.invokevirtual) sX8_doneBy_0 rfl op_182 rfl
theorem dX8_doneBy_13 : decode cX8_doneBy 13 = .ok (.pop, 1) := dc0 (j := 13) sX8_doneBy_0 rfl op_87
theorem dX8_doneBy_14 : decode cX8_doneBy 14 = .ok (.aload_n 0, 1) := dc0 (j := 14) sX8_doneBy_0 rfl op_42
theorem dX8_doneBy_15 : decode cX8_doneBy 15 = .ok (.invokevirtual 206, 3) := dcB (j := 15) (f := Instr.invokevirtual) sX8_doneBy_0 rfl op_182 rfl
theorem dX8_doneBy_18 : decode cX8_doneBy 18 = .ok (.istore 5, 2) := dcA (j := 18) (f := Instr.istore) sX8_doneBy_0 rfl op_54
theorem dX8_doneBy_20 : decode cX8_doneBy 20 = .ok (.aload_n 0, 1) := dc0 (j := 20) sX8_doneBy_0 rfl op_42
theorem dX8_doneBy_21 : decode cX8_doneBy 21 = .ok (.invokevirtual 209, 3) := dcB (j := 21) (f := Instr.invokevirtual) sX8_doneBy_0 rfl op_182 rfl
theorem dX8_doneBy_24 : decode cX8_doneBy 24 = .ok (.iload 5, 2) := dcA (j := 24) (f := Instr.iload) sX8_doneBy_0 rfl op_21
theorem dX8_doneBy_26 : decode cX8_doneBy 26 = .ok (.ireturn, 1) := dc0 (j := 26) sX8_doneBy_0 rfl op_172
theorem sX8_refusesTime_0 : sgm cX8_refusesTime 0 [27, 133, 10, 20, 0, 215, 184, 0, 124, 154, 0, 8, 16, 253, 167, 0, 23, 42, 180, 0, 13, 4, 46, 27, 96, 17, 39, 15, 164, 0, 8, 16, 251, 167, 0, 4] := by decide +kernel
theorem dX8_refusesTime_0 : decode cX8_refusesTime 0 = .ok (.iload_n 1, 1) := dc0 (j := 0) sX8_refusesTime_0 rfl op_27
theorem dX8_refusesTime_1 : decode cX8_refusesTime 1 = .ok (.i2l, 1) := dc0 (j := 1) sX8_refusesTime_0 rfl op_133
theorem dX8_refusesTime_2 : decode cX8_refusesTime 2 = .ok (.lconst 1, 1) := dc0 (j := 2) sX8_refusesTime_0 rfl op_10
theorem dX8_refusesTime_3 : decode cX8_refusesTime 3 = .ok (.ldc2_w 215, 3) := dcB (j := 3) (f := Instr.ldc2_w) sX8_refusesTime_0 rfl op_20 rfl
theorem dX8_refusesTime_6 : decode cX8_refusesTime 6 = .ok (.invokestatic 124, 3) := dcB (j := 6) (f := Instr.invokestatic) sX8_refusesTime_0 rfl op_184 rfl
theorem dX8_refusesTime_9 : decode cX8_refusesTime 9 = .ok (.ifCond .ne 8, 3) := dcTp (j := 9) (v := 8) (f := Instr.ifCond .ne) sX8_refusesTime_0 rfl op_154 rfl rfl
theorem dX8_refusesTime_12 : decode cX8_refusesTime 12 = .ok (.bipush (-3), 2) := dcSn (j := 12) (v := 3) (f := Instr.bipush) sX8_refusesTime_0 rfl op_16 rfl rfl rfl
theorem dX8_refusesTime_14 : decode cX8_refusesTime 14 = .ok (.goto 23, 3) := dcTp (j := 14) (v := 23) (f := Instr.goto) sX8_refusesTime_0 rfl op_167 rfl rfl
theorem dX8_refusesTime_17 : decode cX8_refusesTime 17 = .ok (.aload_n 0, 1) := dc0 (j := 17) sX8_refusesTime_0 rfl op_42
theorem dX8_refusesTime_18 : decode cX8_refusesTime 18 = .ok (.getfield 13, 3) := dcB (j := 18) (f := Instr.getfield) sX8_refusesTime_0 rfl op_180 rfl
theorem dX8_refusesTime_21 : decode cX8_refusesTime 21 = .ok (.iconst 1, 1) := dc0 (j := 21) sX8_refusesTime_0 rfl op_4
theorem dX8_refusesTime_22 : decode cX8_refusesTime 22 = .ok (.iaload, 1) := dc0 (j := 22) sX8_refusesTime_0 rfl op_46
theorem dX8_refusesTime_23 : decode cX8_refusesTime 23 = .ok (.iload_n 1, 1) := dc0 (j := 23) sX8_refusesTime_0 rfl op_27
theorem dX8_refusesTime_24 : decode cX8_refusesTime 24 = .ok (.iadd, 1) := dc0 (j := 24) sX8_refusesTime_0 rfl op_96
theorem dX8_refusesTime_25 : decode cX8_refusesTime 25 = .ok (.sipush 9999, 3) := dcTp (j := 25) (v := 9999) (f := Instr.sipush) sX8_refusesTime_0 rfl op_17 rfl rfl
theorem dX8_refusesTime_28 : decode cX8_refusesTime 28 = .ok (.if_icmp .le 8, 3) := dcTp (j := 28) (v := 8) (f := Instr.if_icmp .le) sX8_refusesTime_0 rfl op_164 rfl rfl
theorem dX8_refusesTime_31 : decode cX8_refusesTime 31 = .ok (.bipush (-5), 2) := dcSn (j := 31) (v := 5) (f := Instr.bipush) sX8_refusesTime_0 rfl op_16 rfl rfl rfl
theorem dX8_refusesTime_33 : decode cX8_refusesTime 33 = .ok (.goto 4, 3) := dcTp (j := 33) (v := 4) (f := Instr.goto) sX8_refusesTime_0 rfl op_167 rfl rfl
theorem sX8_refusesTime_36 : sgm cX8_refusesTime 36 [3, 172] := by decide +kernel
theorem dX8_refusesTime_36 : decode cX8_refusesTime 36 = .ok (.iconst 0, 1) := dc0 (j := 0) sX8_refusesTime_36 rfl op_3
theorem dX8_refusesTime_37 : decode cX8_refusesTime 37 = .ok (.ireturn, 1) := dc0 (j := 1) sX8_refusesTime_36 rfl op_172
theorem sX8_custom_0 : sgm cX8_custom 0 [42, 3, 181, 0, 1, 42, 27, 182, 0, 217, 61, 28, 153, 0, 7, 28, 167, 0, 11, 42, 27, 2, 2, 3, 182, 0, 220, 172] := by decide +kernel
theorem dX8_custom_0 : decode cX8_custom 0 = .ok (.aload_n 0, 1) := dc0 (j := 0) sX8_custom_0 rfl op_42
theorem dX8_custom_1 : decode cX8_custom 1 = .ok (.iconst 0, 1) := dc0 (j := 1) sX8_custom_0 rfl op_3
theorem dX8_custom_2 : decode cX8_custom 2 = .ok (.putfield 1, 3) := dcB (j := 2) (f := Instr.putfield) sX8_custom_0 rfl op_181 rfl
theorem dX8_custom_5 : decode cX8_custom 5 = .ok (.aload_n 0, 1) := dc0 (j := 5) sX8_custom_0 rfl op_42
theorem dX8_custom_6 : decode cX8_custom 6 = .ok (.iload_n 1, 1) := dc0 (j := 6) sX8_custom_0 rfl op_27
theorem dX8_custom_7 : decode cX8_custom 7 = .ok (.invokevirtual 217, 3) := dcB (j := 7) (f := Instr.invokevirtual) sX8_custom_0 rfl op_182 rfl
theorem dX8_custom_10 : decode cX8_custom 10 = .ok (.istore_n 2, 1) := dc0 (j := 10) sX8_custom_0 rfl op_61
theorem dX8_custom_11 : decode cX8_custom 11 = .ok (.iload_n 2, 1) := dc0 (j := 11) sX8_custom_0 rfl op_28
theorem dX8_custom_12 : decode cX8_custom 12 = .ok (.ifCond .eq 7, 3) := dcTp (j := 12) (v := 7) (f := Instr.ifCond .eq) sX8_custom_0 rfl op_153 rfl rfl
theorem dX8_custom_15 : decode cX8_custom 15 = .ok (.iload_n 2, 1) := dc0 (j := 15) sX8_custom_0 rfl op_28
theorem dX8_custom_16 : decode cX8_custom 16 = .ok (.goto 11, 3) := dcTp (j := 16) (v := 11) (f := Instr.goto) sX8_custom_0 rfl op_167 rfl rfl
theorem dX8_custom_19 : decode cX8_custom 19 = .ok (.aload_n 0, 1) := dc0 (j := 19) sX8_custom_0 rfl op_42
theorem dX8_custom_20 : decode cX8_custom 20 = .ok (.iload_n 1, 1) := dc0 (j := 20) sX8_custom_0 rfl op_27
theorem dX8_custom_21 : decode cX8_custom 21 = .ok (.iconst (-1), 1) := dc0 (j := 21) sX8_custom_0 rfl op_2
theorem dX8_custom_22 : decode cX8_custom 22 = .ok (.iconst (-1), 1) := dc0 (j := 22) sX8_custom_0 rfl op_2
theorem dX8_custom_23 : decode cX8_custom 23 = .ok (.iconst 0, 1) := dc0 (j := 23) sX8_custom_0 rfl op_3
theorem dX8_custom_24 : decode cX8_custom 24 = .ok (.invokevirtual 220, 3) := dcB (j := 24) (f := Instr.invokevirtual) sX8_custom_0 rfl op_182 rfl
theorem dX8_custom_27 : decode cX8_custom 27 = .ok (.ireturn, 1) := dc0 (j := 27) sX8_custom_0 rfl op_172
theorem sX8_live_0 : sgm cX8_live 0 [42, 3, 181, 0, 1, 42, 27, 182, 0, 217, 61, 28, 153, 0, 7, 28, 167, 0, 11, 42, 27, 2, 2, 3, 182, 0, 212, 172] := by decide +kernel
theorem dX8_live_0 : decode cX8_live 0 = .ok (.aload_n 0, 1) := dc0 (j := 0) sX8_live_0 rfl op_42
theorem dX8_live_1 : decode cX8_live 1 = .ok (.iconst 0, 1) := dc0 (j := 1) sX8_live_0 rfl op_3
theorem dX8_live_2 : decode cX8_live 2 = .ok (.putfield 1, 3) := dcB (j := 2) (f := Instr.putfield) sX8_live_0 rfl op_181 rfl
theorem dX8_live_5 : decode cX8_live 5 = .ok (.aload_n 0, 1) := dc0 (j := 5) sX8_live_0 rfl op_42
theorem dX8_live_6 : decode cX8_live 6 = .ok (.iload_n 1, 1) := dc0 (j := 6) sX8_live_0 rfl op_27
theorem dX8_live_7 : decode cX8_live 7 = .ok (.invokevirtual 217, 3) := dcB (j := 7) (f := Instr.invokevirtual) sX8_live_0 rfl op_182 rfl
theorem dX8_live_10 : decode cX8_live 10 = .ok (.istore_n 2, 1) := dc0 (j := 10) sX8_live_0 rfl op_61
theorem dX8_live_11 : decode cX8_live 11 = .ok (.iload_n 2, 1) := dc0 (j := 11) sX8_live_0 rfl op_28
theorem dX8_live_12 : decode cX8_live 12 = .ok (.ifCond .eq 7, 3) := dcTp (j := 12) (v := 7) (f := Instr.ifCond .eq) sX8_live_0 rfl op_153 rfl rfl
theorem dX8_live_15 : decode cX8_live 15 = .ok (.iload_n 2, 1) := dc0 (j := 15) sX8_live_0 rfl op_28
theorem dX8_live_16 : decode cX8_live 16 = .ok (.goto 11, 3) := dcTp (j := 16) (v := 11) (f := Instr.goto) sX8_live_0 rfl op_167 rfl rfl
theorem dX8_live_19 : decode cX8_live 19 = .ok (.aload_n 0, 1) := dc0 (j := 19) sX8_live_0 rfl op_42
theorem dX8_live_20 : decode cX8_live 20 = .ok (.iload_n 1, 1) := dc0 (j := 20) sX8_live_0 rfl op_27
theorem dX8_live_21 : decode cX8_live 21 = .ok (.iconst (-1), 1) := dc0 (j := 21) sX8_live_0 rfl op_2
theorem dX8_live_22 : decode cX8_live 22 = .ok (.iconst (-1), 1) := dc0 (j := 22) sX8_live_0 rfl op_2
theorem dX8_live_23 : decode cX8_live 23 = .ok (.iconst 0, 1) := dc0 (j := 23) sX8_live_0 rfl op_3
theorem dX8_live_24 : decode cX8_live 24 = .ok (.invokevirtual 212, 3) := dcB (j := 24) (f := Instr.invokevirtual) sX8_live_0 rfl op_182 rfl
theorem dX8_live_27 : decode cX8_live 27 = .ok (.ireturn, 1) := dc0 (j := 27) sX8_live_0 rfl op_172
theorem sX8_day_0 : sgm cX8_day 0 [42, 3, 181, 0, 1, 28, 133, 10, 20, 0, 159, 184, 0, 124, 154, 0, 6, 16, 253, 172, 42, 180, 0, 13, 4, 46, 28, 96, 17, 39, 15, 164, 0, 6, 16, 251] := by decide +kernel
theorem dX8_day_0 : decode cX8_day 0 = .ok (.aload_n 0, 1) := dc0 (j := 0) sX8_day_0 rfl op_42
theorem dX8_day_1 : decode cX8_day 1 = .ok (.iconst 0, 1) := dc0 (j := 1) sX8_day_0 rfl op_3
theorem dX8_day_2 : decode cX8_day 2 = .ok (.putfield 1, 3) := dcB (j := 2) (f := Instr.putfield) sX8_day_0 rfl op_181 rfl
theorem dX8_day_5 : decode cX8_day 5 = .ok (.iload_n 2, 1) := dc0 (j := 5) sX8_day_0 rfl op_28
theorem dX8_day_6 : decode cX8_day 6 = .ok (.i2l, 1) := dc0 (j := 6) sX8_day_0 rfl op_133
theorem dX8_day_7 : decode cX8_day 7 = .ok (.lconst 1, 1) := dc0 (j := 7) sX8_day_0 rfl op_10
theorem dX8_day_8 : decode cX8_day 8 = .ok (.ldc2_w 159, 3) := dcB (j := 8) (f := Instr.ldc2_w) sX8_day_0 rfl op_20 rfl
theorem dX8_day_11 : decode cX8_day 11 = .ok (.invokestatic 124, 3) := dcB (j := 11) (f := Instr.invokestatic) sX8_day_0 rfl op_184 rfl
theorem dX8_day_14 : decode cX8_day 14 = .ok (.ifCond .ne 6, 3) := dcTp (j := 14) (v := 6) (f := Instr.ifCond .ne) sX8_day_0 rfl op_154 rfl rfl
theorem dX8_day_17 : decode cX8_day 17 = .ok (.bipush (-3), 2) := dcSn (j := 17) (v := 3) (f := Instr.bipush) sX8_day_0 rfl op_16 rfl rfl rfl
theorem dX8_day_19 : decode cX8_day 19 = .ok (.ireturn, 1) := dc0 (j := 19) sX8_day_0 rfl op_172
theorem dX8_day_20 : decode cX8_day 20 = .ok (.aload_n 0, 1) := dc0 (j := 20) sX8_day_0 rfl op_42
theorem dX8_day_21 : decode cX8_day 21 = .ok (.getfield 13, 3) := dcB (j := 21) (f := Instr.getfield) sX8_day_0 rfl op_180 rfl
theorem dX8_day_24 : decode cX8_day 24 = .ok (.iconst 1, 1) := dc0 (j := 24) sX8_day_0 rfl op_4
theorem dX8_day_25 : decode cX8_day 25 = .ok (.iaload, 1) := dc0 (j := 25) sX8_day_0 rfl op_46
theorem dX8_day_26 : decode cX8_day 26 = .ok (.iload_n 2, 1) := dc0 (j := 26) sX8_day_0 rfl op_28
theorem dX8_day_27 : decode cX8_day 27 = .ok (.iadd, 1) := dc0 (j := 27) sX8_day_0 rfl op_96
theorem dX8_day_28 : decode cX8_day 28 = .ok (.sipush 9999, 3) := dcTp (j := 28) (v := 9999) (f := Instr.sipush) sX8_day_0 rfl op_17 rfl rfl
theorem dX8_day_31 : decode cX8_day 31 = .ok (.if_icmp .le 6, 3) := dcTp (j := 31) (v := 6) (f := Instr.if_icmp .le) sX8_day_0 rfl op_164 rfl rfl
theorem dX8_day_34 : decode cX8_day 34 = .ok (.bipush (-5), 2) := dcSn (j := 34) (v := 5) (f := Instr.bipush) sX8_day_0 rfl op_16 rfl rfl rfl
theorem sX8_day_36 : sgm cX8_day 36 [172, 27, 62, 3, 54, 4, 3, 54, 5, 21, 5, 28, 162, 0, 105, 3, 54, 6, 3, 54, 7, 3, 54, 8, 21, 8, 42, 180, 0, 13, 3, 46, 162, 0, 64] := by decide +kernel
theorem dX8_day_36 : decode cX8_day 36 = .ok (.ireturn, 1) := dc0 (j := 0) sX8_day_36 rfl op_172
theorem dX8_day_37 : decode cX8_day 37 = .ok (.iload_n 1, 1) := dc0 (j := 1) sX8_day_36 rfl op_27
theorem dX8_day_38 : decode cX8_day 38 = .ok (.istore_n 3, 1) := dc0 (j := 2) sX8_day_36 rfl op_62
theorem dX8_day_39 : decode cX8_day 39 = .ok (.iconst 0, 1) := dc0 (j := 3) sX8_day_36 rfl op_3
theorem dX8_day_40 : decode cX8_day 40 = .ok (.istore 4, 2) := dcA (j := 4) (f := Instr.istore) sX8_day_36 rfl op_54
theorem dX8_day_42 : decode cX8_day 42 = .ok (.iconst 0, 1) := dc0 (j := 6) sX8_day_36 rfl op_3
theorem dX8_day_43 : decode cX8_day 43 = .ok (.istore 5, 2) := dcA (j := 7) (f := Instr.istore) sX8_day_36 rfl op_54
theorem dX8_day_45 : decode cX8_day 45 = .ok (.iload 5, 2) := dcA (j := 9) (f := Instr.iload) sX8_day_36 rfl op_21
theorem dX8_day_47 : decode cX8_day 47 = .ok (.iload_n 2, 1) := dc0 (j := 11) sX8_day_36 rfl op_28
theorem dX8_day_48 : decode cX8_day 48 = .ok (.if_icmp .ge 105, 3) := dcTp (j := 12) (v := 105) (f := Instr.if_icmp .ge) sX8_day_36 rfl op_162 rfl rfl
theorem dX8_day_51 : decode cX8_day 51 = .ok (.iconst 0, 1) := dc0 (j := 15) sX8_day_36 rfl op_3
theorem dX8_day_52 : decode cX8_day 52 = .ok (.istore 6, 2) := dcA (j := 16) (f := Instr.istore) sX8_day_36 rfl op_54
theorem dX8_day_54 : decode cX8_day 54 = .ok (.iconst 0, 1) := dc0 (j := 18) sX8_day_36 rfl op_3
theorem dX8_day_55 : decode cX8_day 55 = .ok (.istore 7, 2) := dcA (j := 19) (f := Instr.istore) sX8_day_36 rfl op_54
theorem dX8_day_57 : decode cX8_day 57 = .ok (.iconst 0, 1) := dc0 (j := 21) sX8_day_36 rfl op_3
theorem dX8_day_58 : decode cX8_day 58 = .ok (.istore 8, 2) := dcA (j := 22) (f := Instr.istore) sX8_day_36 rfl op_54
theorem dX8_day_60 : decode cX8_day 60 = .ok (.iload 8, 2) := dcA (j := 24) (f := Instr.iload) sX8_day_36 rfl op_21
theorem dX8_day_62 : decode cX8_day 62 = .ok (.aload_n 0, 1) := dc0 (j := 26) sX8_day_36 rfl op_42
theorem dX8_day_63 : decode cX8_day 63 = .ok (.getfield 13, 3) := dcB (j := 27) (f := Instr.getfield) sX8_day_36 rfl op_180 rfl
theorem dX8_day_66 : decode cX8_day 66 = .ok (.iconst 0, 1) := dc0 (j := 30) sX8_day_36 rfl op_3
theorem dX8_day_67 : decode cX8_day 67 = .ok (.iaload, 1) := dc0 (j := 31) sX8_day_36 rfl op_46
theorem dX8_day_68 : decode cX8_day 68 = .ok (.if_icmp .ge 64, 3) := dcTp (j := 32) (v := 64) (f := Instr.if_icmp .ge) sX8_day_36 rfl op_162 rfl rfl
theorem sX8_day_71 : sgm cX8_day 71 [18, 223, 29, 104, 17, 48, 57, 96, 62, 29, 16, 16, 124, 6, 112, 54, 9, 21, 6, 21, 9, 4, 160, 0, 10, 4, 21, 8, 120, 167, 0, 4, 3, 128, 54, 6] := by decide +kernel
theorem dX8_day_71 : decode cX8_day 71 = .ok (.ldc 223, 2) := dcA (j := 0) (f := Instr.ldc) sX8_day_71 rfl op_18
theorem dX8_day_73 : decode cX8_day 73 = .ok (.iload_n 3, 1) := dc0 (j := 2) sX8_day_71 rfl op_29
theorem dX8_day_74 : decode cX8_day 74 = .ok (.imul, 1) := dc0 (j := 3) sX8_day_71 rfl op_104
theorem dX8_day_75 : decode cX8_day 75 = .ok (.sipush 12345, 3) := dcTp (j := 4) (v := 12345) (f := Instr.sipush) sX8_day_71 rfl op_17 rfl rfl
theorem dX8_day_78 : decode cX8_day 78 = .ok (.iadd, 1) := dc0 (j := 7) sX8_day_71 rfl op_96
theorem dX8_day_79 : decode cX8_day 79 = .ok (.istore_n 3, 1) := dc0 (j := 8) sX8_day_71 rfl op_62
theorem dX8_day_80 : decode cX8_day 80 = .ok (.iload_n 3, 1) := dc0 (j := 9) sX8_day_71 rfl op_29
theorem dX8_day_81 : decode cX8_day 81 = .ok (.bipush 16, 2) := dcSp (j := 10) (a := 16) (f := Instr.bipush) sX8_day_71 rfl op_16 rfl
theorem dX8_day_83 : decode cX8_day 83 = .ok (.iushr, 1) := dc0 (j := 12) sX8_day_71 rfl op_124
theorem dX8_day_84 : decode cX8_day 84 = .ok (.iconst 3, 1) := dc0 (j := 13) sX8_day_71 rfl op_6
theorem dX8_day_85 : decode cX8_day 85 = .ok (.irem, 1) := dc0 (j := 14) sX8_day_71 rfl op_112
theorem dX8_day_86 : decode cX8_day 86 = .ok (.istore 9, 2) := dcA (j := 15) (f := Instr.istore) sX8_day_71 rfl op_54
theorem dX8_day_88 : decode cX8_day 88 = .ok (.iload 6, 2) := dcA (j := 17) (f := Instr.iload) sX8_day_71 rfl op_21
theorem dX8_day_90 : decode cX8_day 90 = .ok (.iload 9, 2) := dcA (j := 19) (f := Instr.iload) sX8_day_71 rfl op_21
theorem dX8_day_92 : decode cX8_day 92 = .ok (.iconst 1, 1) := dc0 (j := 21) sX8_day_71 rfl op_4
theorem dX8_day_93 : decode cX8_day 93 = .ok (.if_icmp .ne 10, 3) := dcTp (j := 22) (v := 10) (f := Instr.if_icmp .ne) sX8_day_71 rfl op_160 rfl rfl
theorem dX8_day_96 : decode cX8_day 96 = .ok (.iconst 1, 1) := dc0 (j := 25) sX8_day_71 rfl op_4
theorem dX8_day_97 : decode cX8_day 97 = .ok (.iload 8, 2) := dcA (j := 26) (f := Instr.iload) sX8_day_71 rfl op_21
theorem dX8_day_99 : decode cX8_day 99 = .ok (.ishl, 1) := dc0 (j := 28) sX8_day_71 rfl op_120
theorem dX8_day_100 : decode cX8_day 100 = .ok (.goto 4, 3) := dcTp (j := 29) (v := 4) (f := Instr.goto) sX8_day_71 rfl op_167 rfl rfl
theorem dX8_day_103 : decode cX8_day 103 = .ok (.iconst 0, 1) := dc0 (j := 32) sX8_day_71 rfl op_3
theorem dX8_day_104 : decode cX8_day 104 = .ok (.ior, 1) := dc0 (j := 33) sX8_day_71 rfl op_128
theorem dX8_day_105 : decode cX8_day 105 = .ok (.istore 6, 2) := dcA (j := 34) (f := Instr.istore) sX8_day_71 rfl op_54
theorem sX8_day_107 : sgm cX8_day 107 [21, 7, 21, 9, 5, 160, 0, 10, 4, 21, 8, 120, 167, 0, 4, 3, 128, 54, 7, 132, 8, 1, 167, 255, 187, 21, 4, 42, 21, 6, 21, 7, 2, 3] := by decide +kernel
theorem dX8_day_107 : decode cX8_day 107 = .ok (.iload 7, 2) := dcA (j := 0) (f := Instr.iload) sX8_day_107 rfl op_21
theorem dX8_day_109 : decode cX8_day 109 = .ok (.iload 9, 2) := dcA (j := 2) (f := Instr.iload) sX8_day_107 rfl op_21
theorem dX8_day_111 : decode cX8_day 111 = .ok (.iconst 2, 1) := dc0 (j := 4) sX8_day_107 rfl op_5
theorem dX8_day_112 : decode cX8_day 112 = .ok (.if_icmp .ne 10, 3) := dcTp (j := 5) (v := 10) (f := Instr.if_icmp .ne) sX8_day_107 rfl op_160 rfl rfl
theorem dX8_day_115 : decode cX8_day 115 = .ok (.iconst 1, 1) := dc0 (j := 8) sX8_day_107 rfl op_4
theorem dX8_day_116 : decode cX8_day 116 = .ok (.iload 8, 2) := dcA (j := 9) (f := Instr.iload) sX8_day_107 rfl op_21
theorem dX8_day_118 : decode cX8_day 118 = .ok (.ishl, 1) := dc0 (j := 11) sX8_day_107 rfl op_120
theorem dX8_day_119 : decode cX8_day 119 = .ok (.goto 4, 3) := dcTp (j := 12) (v := 4) (f := Instr.goto) sX8_day_107 rfl op_167 rfl rfl
theorem dX8_day_122 : decode cX8_day 122 = .ok (.iconst 0, 1) := dc0 (j := 15) sX8_day_107 rfl op_3
theorem dX8_day_123 : decode cX8_day 123 = .ok (.ior, 1) := dc0 (j := 16) sX8_day_107 rfl op_128
theorem dX8_day_124 : decode cX8_day 124 = .ok (.istore 7, 2) := dcA (j := 17) (f := Instr.istore) sX8_day_107 rfl op_54
theorem dX8_day_126 : decode cX8_day 126 = .ok (.iinc 8 1, 3) := dcIp (j := 19) sX8_day_107 rfl op_132 rfl
theorem dX8_day_129 : decode cX8_day 129 = .ok (.goto (-69), 3) := dcTn (j := 22) (v := 69) (f := Instr.goto) sX8_day_107 rfl op_167 rfl rfl rfl
theorem dX8_day_132 : decode cX8_day 132 = .ok (.iload 4, 2) := dcA (j := 25) (f := Instr.iload) sX8_day_107 rfl op_21
theorem dX8_day_134 : decode cX8_day 134 = .ok (.aload_n 0, 1) := dc0 (j := 27) sX8_day_107 rfl op_42
theorem dX8_day_135 : decode cX8_day 135 = .ok (.iload 6, 2) := dcA (j := 28) (f := Instr.iload) sX8_day_107 rfl op_21
theorem dX8_day_137 : decode cX8_day 137 = .ok (.iload 7, 2) := dcA (j := 30) (f := Instr.iload) sX8_day_107 rfl op_21
theorem dX8_day_139 : decode cX8_day 139 = .ok (.iconst (-1), 1) := dc0 (j := 32) sX8_day_107 rfl op_2
theorem dX8_day_140 : decode cX8_day 140 = .ok (.iconst 0, 1) := dc0 (j := 33) sX8_day_107 rfl op_3
theorem sX8_day_141 : sgm cX8_day 141 [182, 0, 184, 96, 54, 4, 132, 5, 1, 167, 255, 151, 21, 4, 172] := by decide +kernel
theorem dX8_day_141 : decode cX8_day 141 = .ok (.invokevirtual 184, 3) := dcB (j := 0) (f := Instr.invokevirtual) sX8_day_141 rfl op_182 rfl
theorem dX8_day_144 : decode cX8_day 144 = .ok (.iadd, 1) := dc0 (j := 3) sX8_day_141 rfl op_96
theorem dX8_day_145 : decode cX8_day 145 = .ok (.istore 4, 2) := dcA (j := 4) (f := Instr.istore) sX8_day_141 rfl op_54
theorem dX8_day_147 : decode cX8_day 147 = .ok (.iinc 5 1, 3) := dcIp (j := 6) sX8_day_141 rfl op_132 rfl
theorem dX8_day_150 : decode cX8_day 150 = .ok (.goto (-105), 3) := dcTn (j := 9) (v := 105) (f := Instr.goto) sX8_day_141 rfl op_167 rfl rfl rfl
theorem dX8_day_153 : decode cX8_day 153 = .ok (.iload 4, 2) := dcA (j := 12) (f := Instr.iload) sX8_day_141 rfl op_21
theorem dX8_day_155 : decode cX8_day 155 = .ok (.ireturn, 1) := dc0 (j := 14) sX8_day_141 rfl op_172
theorem sX8_led_0 : sgm cX8_led 0 [27, 62, 3, 54, 4, 21, 4, 28, 162, 0, 19, 42, 180, 0, 13, 16, 84, 29, 96, 46, 62, 132, 4, 1, 167, 255, 237, 29, 172] := by decide +kernel
theorem dX8_led_0 : decode cX8_led 0 = .ok (.iload_n 1, 1) := dc0 (j := 0) sX8_led_0 rfl op_27
theorem dX8_led_1 : decode cX8_led 1 = .ok (.istore_n 3, 1) := dc0 (j := 1) sX8_led_0 rfl op_62
theorem dX8_led_2 : decode cX8_led 2 = .ok (.iconst 0, 1) := dc0 (j := 2) sX8_led_0 rfl op_3
theorem dX8_led_3 : decode cX8_led 3 = .ok (.istore 4, 2) := dcA (j := 3) (f := Instr.istore) sX8_led_0 rfl op_54
theorem dX8_led_5 : decode cX8_led 5 = .ok (.iload 4, 2) := dcA (j := 5) (f := Instr.iload) sX8_led_0 rfl op_21
theorem dX8_led_7 : decode cX8_led 7 = .ok (.iload_n 2, 1) := dc0 (j := 7) sX8_led_0 rfl op_28
theorem dX8_led_8 : decode cX8_led 8 = .ok (.if_icmp .ge 19, 3) := dcTp (j := 8) (v := 19) (f := Instr.if_icmp .ge) sX8_led_0 rfl op_162 rfl rfl
theorem dX8_led_11 : decode cX8_led 11 = .ok (.aload_n 0, 1) := dc0 (j := 11) sX8_led_0 rfl op_42
theorem dX8_led_12 : decode cX8_led 12 = .ok (.getfield 13, 3) := dcB (j := 12) (f := Instr.getfield) sX8_led_0 rfl op_180 rfl
theorem dX8_led_15 : decode cX8_led 15 = .ok (.bipush 84, 2) := dcSp (j := 15) (a := 84) (f := Instr.bipush) sX8_led_0 rfl op_16 rfl
theorem dX8_led_17 : decode cX8_led 17 = .ok (.iload_n 3, 1) := dc0 (j := 17) sX8_led_0 rfl op_29
theorem dX8_led_18 : decode cX8_led 18 = .ok (.iadd, 1) := dc0 (j := 18) sX8_led_0 rfl op_96
theorem dX8_led_19 : decode cX8_led 19 = .ok (.iaload, 1) := dc0 (j := 19) sX8_led_0 rfl op_46
theorem dX8_led_20 : decode cX8_led 20 = .ok (.istore_n 3, 1) := dc0 (j := 20) sX8_led_0 rfl op_62
theorem dX8_led_21 : decode cX8_led 21 = .ok (.iinc 4 1, 3) := dcIp (j := 21) sX8_led_0 rfl op_132 rfl
theorem dX8_led_24 : decode cX8_led 24 = .ok (.goto (-19), 3) := dcTn (j := 24) (v := 19) (f := Instr.goto) sX8_led_0 rfl op_167 rfl rfl rfl
theorem dX8_led_27 : decode cX8_led 27 = .ok (.iload_n 3, 1) := dc0 (j := 27) sX8_led_0 rfl op_29
theorem dX8_led_28 : decode cX8_led 28 = .ok (.ireturn, 1) := dc0 (j := 28) sX8_led_0 rfl op_172
theorem sX8_ringOf_0 : sgm cX8_ringOf 0 [42, 27, 16, 10, 182, 0, 224, 61, 4, 62, 42, 28, 29, 182, 0, 224, 28, 159, 0, 9, 132, 3, 1, 167, 255, 243, 29, 172] := by decide +kernel
theorem dX8_ringOf_0 : decode cX8_ringOf 0 = .ok (.aload_n 0, 1) := dc0 (j := 0) sX8_ringOf_0 rfl op_42
theorem dX8_ringOf_1 : decode cX8_ringOf 1 = .ok (.iload_n 1, 1) := dc0 (j := 1) sX8_ringOf_0 rfl op_27
theorem dX8_ringOf_2 : decode cX8_ringOf 2 = .ok (.bipush 10, 2) := dcSp (j := 2) (a := 10) (f := Instr.bipush) sX8_ringOf_0 rfl op_16 rfl
theorem dX8_ringOf_4 : decode cX8_ringOf 4 = .ok (.invokevirtual 224, 3) := dcB (j := 4) (f := Instr.invokevirtual) sX8_ringOf_0 rfl op_182 rfl
theorem dX8_ringOf_7 : decode cX8_ringOf 7 = .ok (.istore_n 2, 1) := dc0 (j := 7) sX8_ringOf_0 rfl op_61
theorem dX8_ringOf_8 : decode cX8_ringOf 8 = .ok (.iconst 1, 1) := dc0 (j := 8) sX8_ringOf_0 rfl op_4
theorem dX8_ringOf_9 : decode cX8_ringOf 9 = .ok (.istore_n 3, 1) := dc0 (j := 9) sX8_ringOf_0 rfl op_62
theorem dX8_ringOf_10 : decode cX8_ringOf 10 = .ok (.aload_n 0, 1) := dc0 (j := 10) sX8_ringOf_0 rfl op_42
theorem dX8_ringOf_11 : decode cX8_ringOf 11 = .ok (.iload_n 2, 1) := dc0 (j := 11) sX8_ringOf_0 rfl op_28
theorem dX8_ringOf_12 : decode cX8_ringOf 12 = .ok (.iload_n 3, 1) := dc0 (j := 12) sX8_ringOf_0 rfl op_29
theorem dX8_ringOf_13 : decode cX8_ringOf 13 = .ok (.invokevirtual 224, 3) := dcB (j := 13) (f := Instr.invokevirtual) sX8_ringOf_0 rfl op_182 rfl
theorem dX8_ringOf_16 : decode cX8_ringOf 16 = .ok (.iload_n 2, 1) := dc0 (j := 16) sX8_ringOf_0 rfl op_28
theorem dX8_ringOf_17 : decode cX8_ringOf 17 = .ok (.if_icmp .eq 9, 3) := dcTp (j := 17) (v := 9) (f := Instr.if_icmp .eq) sX8_ringOf_0 rfl op_159 rfl rfl
theorem dX8_ringOf_20 : decode cX8_ringOf 20 = .ok (.iinc 3 1, 3) := dcIp (j := 20) sX8_ringOf_0 rfl op_132 rfl
theorem dX8_ringOf_23 : decode cX8_ringOf 23 = .ok (.goto (-13), 3) := dcTn (j := 23) (v := 13) (f := Instr.goto) sX8_ringOf_0 rfl op_167 rfl rfl rfl
theorem dX8_ringOf_26 : decode cX8_ringOf 26 = .ok (.iload_n 3, 1) := dc0 (j := 26) sX8_ringOf_0 rfl op_29
theorem dX8_ringOf_27 : decode cX8_ringOf 27 = .ok (.ireturn, 1) := dc0 (j := 27) sX8_ringOf_0 rfl op_172
theorem sX8_ring_0 : sgm cX8_ring 0 [42, 3, 181, 0, 1, 42, 27, 182, 0, 148, 153, 0, 11, 42, 27, 182, 0, 227, 167, 0, 5, 16, 254, 172] := by decide +kernel
theorem dX8_ring_0 : decode cX8_ring 0 = .ok (.aload_n 0, 1) := dc0 (j := 0) sX8_ring_0 rfl op_42
theorem dX8_ring_1 : decode cX8_ring 1 = .ok (.iconst 0, 1) := dc0 (j := 1) sX8_ring_0 rfl op_3
theorem dX8_ring_2 : decode cX8_ring 2 = .ok (.putfield 1, 3) := dcB (j := 2) (f := Instr.putfield) sX8_ring_0 rfl op_181 rfl
theorem dX8_ring_5 : decode cX8_ring 5 = .ok (.aload_n 0, 1) := dc0 (j := 5) sX8_ring_0 rfl op_42
theorem dX8_ring_6 : decode cX8_ring 6 = .ok (.iload_n 1, 1) := dc0 (j := 6) sX8_ring_0 rfl op_27
theorem dX8_ring_7 : decode cX8_ring 7 = .ok (.invokevirtual 148, 3) := dcB (j := 7) (f := Instr.invokevirtual) sX8_ring_0 rfl op_182 rfl
theorem dX8_ring_10 : decode cX8_ring 10 = .ok (.ifCond .eq 11, 3) := dcTp (j := 10) (v := 11) (f := Instr.ifCond .eq) sX8_ring_0 rfl op_153 rfl rfl
theorem dX8_ring_13 : decode cX8_ring 13 = .ok (.aload_n 0, 1) := dc0 (j := 13) sX8_ring_0 rfl op_42
theorem dX8_ring_14 : decode cX8_ring 14 = .ok (.iload_n 1, 1) := dc0 (j := 14) sX8_ring_0 rfl op_27
theorem dX8_ring_15 : decode cX8_ring 15 = .ok (.invokevirtual 227, 3) := dcB (j := 15) (f := Instr.invokevirtual) sX8_ring_0 rfl op_182 rfl
theorem dX8_ring_18 : decode cX8_ring 18 = .ok (.goto 5, 3) := dcTp (j := 18) (v := 5) (f := Instr.goto) sX8_ring_0 rfl op_167 rfl rfl
theorem dX8_ring_21 : decode cX8_ring 21 = .ok (.bipush (-2), 2) := dcSn (j := 21) (v := 2) (f := Instr.bipush) sX8_ring_0 rfl op_16 rfl rfl rfl
theorem dX8_ring_23 : decode cX8_ring 23 = .ok (.ireturn, 1) := dc0 (j := 23) sX8_ring_0 rfl op_172
theorem sX8_rings_0 : sgm cX8_rings 0 [42, 3, 181, 0, 1, 3, 60, 3, 61, 28, 42, 180, 0, 13, 3, 46, 162, 0, 78, 42, 28, 42, 28, 182, 0, 227, 182, 0, 224, 28, 160, 0, 7, 4] := by decide +kernel
theorem dX8_rings_0 : decode cX8_rings 0 = .ok (.aload_n 0, 1) := dc0 (j := 0) sX8_rings_0 rfl op_42
theorem dX8_rings_1 : decode cX8_rings 1 = .ok (.iconst 0, 1) := dc0 (j := 1) sX8_rings_0 rfl op_3
theorem dX8_rings_2 : decode cX8_rings 2 = .ok (.putfield 1, 3) := dcB (j := 2) (f := Instr.putfield) sX8_rings_0 rfl op_181 rfl
theorem dX8_rings_5 : decode cX8_rings 5 = .ok (.iconst 0, 1) := dc0 (j := 5) sX8_rings_0 rfl op_3
theorem dX8_rings_6 : decode cX8_rings 6 = .ok (.istore_n 1, 1) := dc0 (j := 6) sX8_rings_0 rfl op_60
theorem dX8_rings_7 : decode cX8_rings 7 = .ok (.iconst 0, 1) := dc0 (j := 7) sX8_rings_0 rfl op_3
theorem dX8_rings_8 : decode cX8_rings 8 = .ok (.istore_n 2, 1) := dc0 (j := 8) sX8_rings_0 rfl op_61
theorem dX8_rings_9 : decode cX8_rings 9 = .ok (.iload_n 2, 1) := dc0 (j := 9) sX8_rings_0 rfl op_28
theorem dX8_rings_10 : decode cX8_rings 10 = .ok (.aload_n 0, 1) := dc0 (j := 10) sX8_rings_0 rfl op_42
theorem dX8_rings_11 : decode cX8_rings 11 = .ok (.getfield 13, 3) := dcB (j := 11) (f := Instr.getfield) sX8_rings_0 rfl op_180 rfl
theorem dX8_rings_14 : decode cX8_rings 14 = .ok (.iconst 0, 1) := dc0 (j := 14) sX8_rings_0 rfl op_3
theorem dX8_rings_15 : decode cX8_rings 15 = .ok (.iaload, 1) := dc0 (j := 15) sX8_rings_0 rfl op_46
theorem dX8_rings_16 : decode cX8_rings 16 = .ok (.if_icmp .ge 78, 3) := dcTp (j := 16) (v := 78) (f := Instr.if_icmp .ge) sX8_rings_0 rfl op_162 rfl rfl
theorem dX8_rings_19 : decode cX8_rings 19 = .ok (.aload_n 0, 1) := dc0 (j := 19) sX8_rings_0 rfl op_42
theorem dX8_rings_20 : decode cX8_rings 20 = .ok (.iload_n 2, 1) := dc0 (j := 20) sX8_rings_0 rfl op_28
theorem dX8_rings_21 : decode cX8_rings 21 = .ok (.aload_n 0, 1) := dc0 (j := 21) sX8_rings_0 rfl op_42
theorem dX8_rings_22 : decode cX8_rings 22 = .ok (.iload_n 2, 1) := dc0 (j := 22) sX8_rings_0 rfl op_28
theorem dX8_rings_23 : decode cX8_rings 23 = .ok (.invokevirtual 227, 3) := dcB (j := 23) (f := Instr.invokevirtual) sX8_rings_0 rfl op_182 rfl
theorem dX8_rings_26 : decode cX8_rings 26 = .ok (.invokevirtual 224, 3) := dcB (j := 26) (f := Instr.invokevirtual) sX8_rings_0 rfl op_182 rfl
theorem dX8_rings_29 : decode cX8_rings 29 = .ok (.iload_n 2, 1) := dc0 (j := 29) sX8_rings_0 rfl op_28
theorem dX8_rings_30 : decode cX8_rings 30 = .ok (.if_icmp .ne 7, 3) := dcTp (j := 30) (v := 7) (f := Instr.if_icmp .ne) sX8_rings_0 rfl op_160 rfl rfl
theorem dX8_rings_33 : decode cX8_rings 33 = .ok (.iconst 1, 1) := dc0 (j := 33) sX8_rings_0 rfl op_4
theorem sX8_rings_34 : sgm cX8_rings 34 [167, 0, 4, 3, 62, 4, 54, 4, 21, 4, 16, 10, 162, 0, 30, 29, 153, 0, 26, 42, 28, 21, 4, 182, 0, 224, 28, 161, 0, 7, 4, 167, 0, 4, 3, 62] := by decide +kernel
theorem dX8_rings_34 : decode cX8_rings 34 = .ok (.goto 4, 3) := dcTp (j := 0) (v := 4) (f := Instr.goto) sX8_rings_34 rfl op_167 rfl rfl
theorem dX8_rings_37 : decode cX8_rings 37 = .ok (.iconst 0, 1) := dc0 (j := 3) sX8_rings_34 rfl op_3
theorem dX8_rings_38 : decode cX8_rings 38 = .ok (.istore_n 3, 1) := dc0 (j := 4) sX8_rings_34 rfl op_62
theorem dX8_rings_39 : decode cX8_rings 39 = .ok (.iconst 1, 1) := dc0 (j := 5) sX8_rings_34 rfl op_4
theorem dX8_rings_40 : decode cX8_rings 40 = .ok (.istore 4, 2) := dcA (j := 6) (f := Instr.istore) sX8_rings_34 rfl op_54
theorem dX8_rings_42 : decode cX8_rings 42 = .ok (.iload 4, 2) := dcA (j := 8) (f := Instr.iload) sX8_rings_34 rfl op_21
theorem dX8_rings_44 : decode cX8_rings 44 = .ok (.bipush 10, 2) := dcSp (j := 10) (a := 10) (f := Instr.bipush) sX8_rings_34 rfl op_16 rfl
theorem dX8_rings_46 : decode cX8_rings 46 = .ok (.if_icmp .ge 30, 3) := dcTp (j := 12) (v := 30) (f := Instr.if_icmp .ge) sX8_rings_34 rfl op_162 rfl rfl
theorem dX8_rings_49 : decode cX8_rings 49 = .ok (.iload_n 3, 1) := dc0 (j := 15) sX8_rings_34 rfl op_29
theorem dX8_rings_50 : decode cX8_rings 50 = .ok (.ifCond .eq 26, 3) := dcTp (j := 16) (v := 26) (f := Instr.ifCond .eq) sX8_rings_34 rfl op_153 rfl rfl
theorem dX8_rings_53 : decode cX8_rings 53 = .ok (.aload_n 0, 1) := dc0 (j := 19) sX8_rings_34 rfl op_42
theorem dX8_rings_54 : decode cX8_rings 54 = .ok (.iload_n 2, 1) := dc0 (j := 20) sX8_rings_34 rfl op_28
theorem dX8_rings_55 : decode cX8_rings 55 = .ok (.iload 4, 2) := dcA (j := 21) (f := Instr.iload) sX8_rings_34 rfl op_21
theorem dX8_rings_57 : decode cX8_rings 57 = .ok (.invokevirtual 224, 3) := dcB (j := 23) (f := Instr.invokevirtual) sX8_rings_34 rfl op_182 rfl
theorem dX8_rings_60 : decode cX8_rings 60 = .ok (.iload_n 2, 1) := dc0 (j := 26) sX8_rings_34 rfl op_28
theorem dX8_rings_61 : decode cX8_rings 61 = .ok (.if_icmp .lt 7, 3) := dcTp (j := 27) (v := 7) (f := Instr.if_icmp .lt) sX8_rings_34 rfl op_161 rfl rfl
theorem dX8_rings_64 : decode cX8_rings 64 = .ok (.iconst 1, 1) := dc0 (j := 30) sX8_rings_34 rfl op_4
theorem dX8_rings_65 : decode cX8_rings 65 = .ok (.goto 4, 3) := dcTp (j := 31) (v := 4) (f := Instr.goto) sX8_rings_34 rfl op_167 rfl rfl
theorem dX8_rings_68 : decode cX8_rings 68 = .ok (.iconst 0, 1) := dc0 (j := 34) sX8_rings_34 rfl op_3
theorem dX8_rings_69 : decode cX8_rings 69 = .ok (.istore_n 3, 1) := dc0 (j := 35) sX8_rings_34 rfl op_62
theorem sX8_rings_70 : sgm cX8_rings 70 [132, 4, 1, 167, 255, 225, 27, 29, 153, 0, 7, 4, 167, 0, 4, 3, 96, 60, 132, 2, 1, 167, 255, 174, 27, 172] := by decide +kernel
theorem dX8_rings_70 : decode cX8_rings 70 = .ok (.iinc 4 1, 3) := dcIp (j := 0) sX8_rings_70 rfl op_132 rfl
theorem dX8_rings_73 : decode cX8_rings 73 = .ok (.goto (-31), 3) := dcTn (j := 3) (v := 31) (f := Instr.goto) sX8_rings_70 rfl op_167 rfl rfl rfl
theorem dX8_rings_76 : decode cX8_rings 76 = .ok (.iload_n 1, 1) := dc0 (j := 6) sX8_rings_70 rfl op_27
theorem dX8_rings_77 : decode cX8_rings 77 = .ok (.iload_n 3, 1) := dc0 (j := 7) sX8_rings_70 rfl op_29
theorem dX8_rings_78 : decode cX8_rings 78 = .ok (.ifCond .eq 7, 3) := dcTp (j := 8) (v := 7) (f := Instr.ifCond .eq) sX8_rings_70 rfl op_153 rfl rfl
theorem dX8_rings_81 : decode cX8_rings 81 = .ok (.iconst 1, 1) := dc0 (j := 11) sX8_rings_70 rfl op_4
theorem dX8_rings_82 : decode cX8_rings 82 = .ok (.goto 4, 3) := dcTp (j := 12) (v := 4) (f := Instr.goto) sX8_rings_70 rfl op_167 rfl rfl
theorem dX8_rings_85 : decode cX8_rings 85 = .ok (.iconst 0, 1) := dc0 (j := 15) sX8_rings_70 rfl op_3
theorem dX8_rings_86 : decode cX8_rings 86 = .ok (.iadd, 1) := dc0 (j := 16) sX8_rings_70 rfl op_96
theorem dX8_rings_87 : decode cX8_rings 87 = .ok (.istore_n 1, 1) := dc0 (j := 17) sX8_rings_70 rfl op_60
theorem dX8_rings_88 : decode cX8_rings 88 = .ok (.iinc 2 1, 3) := dcIp (j := 18) sX8_rings_70 rfl op_132 rfl
theorem dX8_rings_91 : decode cX8_rings 91 = .ok (.goto (-82), 3) := dcTn (j := 21) (v := 82) (f := Instr.goto) sX8_rings_70 rfl op_167 rfl rfl rfl
theorem dX8_rings_94 : decode cX8_rings 94 = .ok (.iload_n 1, 1) := dc0 (j := 24) sX8_rings_70 rfl op_27
theorem dX8_rings_95 : decode cX8_rings 95 = .ok (.ireturn, 1) := dc0 (j := 25) sX8_rings_70 rfl op_172
theorem sX8_steps_0 : sgm cX8_steps 0 [42, 3, 181, 0, 1, 42, 27, 182, 0, 148, 153, 0, 11, 42, 28, 182, 0, 148, 154, 0, 6, 16, 254, 172, 3, 62, 29, 16, 10, 162, 0, 21, 42, 27, 29] := by decide +kernel
theorem dX8_steps_0 : decode cX8_steps 0 = .ok (.aload_n 0, 1) := dc0 (j := 0) sX8_steps_0 rfl op_42
theorem dX8_steps_1 : decode cX8_steps 1 = .ok (.iconst 0, 1) := dc0 (j := 1) sX8_steps_0 rfl op_3
theorem dX8_steps_2 : decode cX8_steps 2 = .ok (.putfield 1, 3) := dcB (j := 2) (f := Instr.putfield) sX8_steps_0 rfl op_181 rfl
theorem dX8_steps_5 : decode cX8_steps 5 = .ok (.aload_n 0, 1) := dc0 (j := 5) sX8_steps_0 rfl op_42
theorem dX8_steps_6 : decode cX8_steps 6 = .ok (.iload_n 1, 1) := dc0 (j := 6) sX8_steps_0 rfl op_27
theorem dX8_steps_7 : decode cX8_steps 7 = .ok (.invokevirtual 148, 3) := dcB (j := 7) (f := Instr.invokevirtual) sX8_steps_0 rfl op_182 rfl
theorem dX8_steps_10 : decode cX8_steps 10 = .ok (.ifCond .eq 11, 3) := dcTp (j := 10) (v := 11) (f := Instr.ifCond .eq) sX8_steps_0 rfl op_153 rfl rfl
theorem dX8_steps_13 : decode cX8_steps 13 = .ok (.aload_n 0, 1) := dc0 (j := 13) sX8_steps_0 rfl op_42
theorem dX8_steps_14 : decode cX8_steps 14 = .ok (.iload_n 2, 1) := dc0 (j := 14) sX8_steps_0 rfl op_28
theorem dX8_steps_15 : decode cX8_steps 15 = .ok (.invokevirtual 148, 3) := dcB (j := 15) (f := Instr.invokevirtual) sX8_steps_0 rfl op_182 rfl
theorem dX8_steps_18 : decode cX8_steps 18 = .ok (.ifCond .ne 6, 3) := dcTp (j := 18) (v := 6) (f := Instr.ifCond .ne) sX8_steps_0 rfl op_154 rfl rfl
theorem dX8_steps_21 : decode cX8_steps 21 = .ok (.bipush (-2), 2) := dcSn (j := 21) (v := 2) (f := Instr.bipush) sX8_steps_0 rfl op_16 rfl rfl rfl
theorem dX8_steps_23 : decode cX8_steps 23 = .ok (.ireturn, 1) := dc0 (j := 23) sX8_steps_0 rfl op_172
theorem dX8_steps_24 : decode cX8_steps 24 = .ok (.iconst 0, 1) := dc0 (j := 24) sX8_steps_0 rfl op_3
theorem dX8_steps_25 : decode cX8_steps 25 = .ok (.istore_n 3, 1) := dc0 (j := 25) sX8_steps_0 rfl op_62
theorem dX8_steps_26 : decode cX8_steps 26 = .ok (.iload_n 3, 1) := dc0 (j := 26) sX8_steps_0 rfl op_29
theorem dX8_steps_27 : decode cX8_steps 27 = .ok (.bipush 10, 2) := dcSp (j := 27) (a := 10) (f := Instr.bipush) sX8_steps_0 rfl op_16 rfl
theorem dX8_steps_29 : decode cX8_steps 29 = .ok (.if_icmp .ge 21, 3) := dcTp (j := 29) (v := 21) (f := Instr.if_icmp .ge) sX8_steps_0 rfl op_162 rfl rfl
theorem dX8_steps_32 : decode cX8_steps 32 = .ok (.aload_n 0, 1) := dc0 (j := 32) sX8_steps_0 rfl op_42
theorem dX8_steps_33 : decode cX8_steps 33 = .ok (.iload_n 1, 1) := dc0 (j := 33) sX8_steps_0 rfl op_27
theorem dX8_steps_34 : decode cX8_steps 34 = .ok (.iload_n 3, 1) := dc0 (j := 34) sX8_steps_0 rfl op_29
theorem sX8_steps_35 : sgm cX8_steps 35 [182, 0, 224, 28, 160, 0, 5, 29, 172, 132, 3, 1, 167, 255, 235, 2, 172] := by decide +kernel
theorem dX8_steps_35 : decode cX8_steps 35 = .ok (.invokevirtual 224, 3) := dcB (j := 0) (f := Instr.invokevirtual) sX8_steps_35 rfl op_182 rfl
theorem dX8_steps_38 : decode cX8_steps 38 = .ok (.iload_n 2, 1) := dc0 (j := 3) sX8_steps_35 rfl op_28
theorem dX8_steps_39 : decode cX8_steps 39 = .ok (.if_icmp .ne 5, 3) := dcTp (j := 4) (v := 5) (f := Instr.if_icmp .ne) sX8_steps_35 rfl op_160 rfl rfl
theorem dX8_steps_42 : decode cX8_steps 42 = .ok (.iload_n 3, 1) := dc0 (j := 7) sX8_steps_35 rfl op_29
theorem dX8_steps_43 : decode cX8_steps 43 = .ok (.ireturn, 1) := dc0 (j := 8) sX8_steps_35 rfl op_172
theorem dX8_steps_44 : decode cX8_steps 44 = .ok (.iinc 3 1, 3) := dcIp (j := 9) sX8_steps_35 rfl op_132 rfl
theorem dX8_steps_47 : decode cX8_steps 47 = .ok (.goto (-21), 3) := dcTn (j := 12) (v := 21) (f := Instr.goto) sX8_steps_35 rfl op_167 rfl rfl rfl
theorem dX8_steps_50 : decode cX8_steps 50 = .ok (.iconst (-1), 1) := dc0 (j := 15) sX8_steps_35 rfl op_2
theorem dX8_steps_51 : decode cX8_steps 51 = .ok (.ireturn, 1) := dc0 (j := 16) sX8_steps_35 rfl op_172
theorem sX8_unblown_0 : sgm cX8_unblown 0 [42, 3, 181, 0, 1, 3, 60, 3, 61, 28, 42, 180, 0, 13, 3, 46, 162, 0, 27, 27, 42, 28, 182, 0, 156, 154, 0, 9, 4, 28, 120, 167, 0, 4, 3, 128] := by decide +kernel
theorem dX8_unblown_0 : decode cX8_unblown 0 = .ok (.aload_n 0, 1) := dc0 (j := 0) sX8_unblown_0 rfl op_42
theorem dX8_unblown_1 : decode cX8_unblown 1 = .ok (.iconst 0, 1) := dc0 (j := 1) sX8_unblown_0 rfl op_3
theorem dX8_unblown_2 : decode cX8_unblown 2 = .ok (.putfield 1, 3) := dcB (j := 2) (f := Instr.putfield) sX8_unblown_0 rfl op_181 rfl
theorem dX8_unblown_5 : decode cX8_unblown 5 = .ok (.iconst 0, 1) := dc0 (j := 5) sX8_unblown_0 rfl op_3
theorem dX8_unblown_6 : decode cX8_unblown 6 = .ok (.istore_n 1, 1) := dc0 (j := 6) sX8_unblown_0 rfl op_60
theorem dX8_unblown_7 : decode cX8_unblown 7 = .ok (.iconst 0, 1) := dc0 (j := 7) sX8_unblown_0 rfl op_3
theorem dX8_unblown_8 : decode cX8_unblown 8 = .ok (.istore_n 2, 1) := dc0 (j := 8) sX8_unblown_0 rfl op_61
theorem dX8_unblown_9 : decode cX8_unblown 9 = .ok (.iload_n 2, 1) := dc0 (j := 9) sX8_unblown_0 rfl op_28
theorem dX8_unblown_10 : decode cX8_unblown 10 = .ok (.aload_n 0, 1) := dc0 (j := 10) sX8_unblown_0 rfl op_42
theorem dX8_unblown_11 : decode cX8_unblown 11 = .ok (.getfield 13, 3) := dcB (j := 11) (f := Instr.getfield) sX8_unblown_0 rfl op_180 rfl
theorem dX8_unblown_14 : decode cX8_unblown 14 = .ok (.iconst 0, 1) := dc0 (j := 14) sX8_unblown_0 rfl op_3
theorem dX8_unblown_15 : decode cX8_unblown 15 = .ok (.iaload, 1) := dc0 (j := 15) sX8_unblown_0 rfl op_46
theorem dX8_unblown_16 : decode cX8_unblown 16 = .ok (.if_icmp .ge 27, 3) := dcTp (j := 16) (v := 27) (f := Instr.if_icmp .ge) sX8_unblown_0 rfl op_162 rfl rfl
theorem dX8_unblown_19 : decode cX8_unblown 19 = .ok (.iload_n 1, 1) := dc0 (j := 19) sX8_unblown_0 rfl op_27
theorem dX8_unblown_20 : decode cX8_unblown 20 = .ok (.aload_n 0, 1) := dc0 (j := 20) sX8_unblown_0 rfl op_42
theorem dX8_unblown_21 : decode cX8_unblown 21 = .ok (.iload_n 2, 1) := dc0 (j := 21) sX8_unblown_0 rfl op_28
theorem dX8_unblown_22 : decode cX8_unblown 22 = .ok (.invokevirtual 156, 3) := dcB (j := 22) (f := Instr.invokevirtual) sX8_unblown_0 rfl op_182 rfl
theorem dX8_unblown_25 : decode cX8_unblown 25 = .ok (.ifCond .ne 9, 3) := dcTp (j := 25) (v := 9) (f := Instr.ifCond .ne) sX8_unblown_0 rfl op_154 rfl rfl
theorem dX8_unblown_28 : decode cX8_unblown 28 = .ok (.iconst 1, 1) := dc0 (j := 28) sX8_unblown_0 rfl op_4
theorem dX8_unblown_29 : decode cX8_unblown 29 = .ok (.iload_n 2, 1) := dc0 (j := 29) sX8_unblown_0 rfl op_28
theorem dX8_unblown_30 : decode cX8_unblown 30 = .ok (.ishl, 1) := dc0 (j := 30) sX8_unblown_0 rfl op_120
theorem dX8_unblown_31 : decode cX8_unblown 31 = .ok (.goto 4, 3) := dcTp (j := 31) (v := 4) (f := Instr.goto) sX8_unblown_0 rfl op_167 rfl rfl
theorem dX8_unblown_34 : decode cX8_unblown 34 = .ok (.iconst 0, 1) := dc0 (j := 34) sX8_unblown_0 rfl op_3
theorem dX8_unblown_35 : decode cX8_unblown 35 = .ok (.ior, 1) := dc0 (j := 35) sX8_unblown_0 rfl op_128
theorem sX8_unblown_36 : sgm cX8_unblown 36 [60, 132, 2, 1, 167, 255, 225, 27, 172] := by decide +kernel
theorem dX8_unblown_36 : decode cX8_unblown 36 = .ok (.istore_n 1, 1) := dc0 (j := 0) sX8_unblown_36 rfl op_60
theorem dX8_unblown_37 : decode cX8_unblown 37 = .ok (.iinc 2 1, 3) := dcIp (j := 1) sX8_unblown_36 rfl op_132 rfl
theorem dX8_unblown_40 : decode cX8_unblown 40 = .ok (.goto (-31), 3) := dcTn (j := 4) (v := 31) (f := Instr.goto) sX8_unblown_36 rfl op_167 rfl rfl rfl
theorem dX8_unblown_43 : decode cX8_unblown 43 = .ok (.iload_n 1, 1) := dc0 (j := 7) sX8_unblown_36 rfl op_27
theorem dX8_unblown_44 : decode cX8_unblown 44 = .ok (.ireturn, 1) := dc0 (j := 8) sX8_unblown_36 rfl op_172
theorem sX8_pulling_0 : sgm cX8_pulling 0 [3, 61, 3, 62, 29, 42, 180, 0, 13, 3, 46, 162, 0, 32, 28, 42, 180, 0, 36, 29, 47, 27, 184, 0, 163, 153, 0, 9, 4, 29, 120, 167, 0, 4, 3, 128] := by decide +kernel
theorem dX8_pulling_0 : decode cX8_pulling 0 = .ok (.iconst 0, 1) := dc0 (j := 0) sX8_pulling_0 rfl op_3
theorem dX8_pulling_1 : decode cX8_pulling 1 = .ok (.istore_n 2, 1) := dc0 (j := 1) sX8_pulling_0 rfl op_61
theorem dX8_pulling_2 : decode cX8_pulling 2 = .ok (.iconst 0, 1) := dc0 (j := 2) sX8_pulling_0 rfl op_3
theorem dX8_pulling_3 : decode cX8_pulling 3 = .ok (.istore_n 3, 1) := dc0 (j := 3) sX8_pulling_0 rfl op_62
theorem dX8_pulling_4 : decode cX8_pulling 4 = .ok (.iload_n 3, 1) := dc0 (j := 4) sX8_pulling_0 rfl op_29
theorem dX8_pulling_5 : decode cX8_pulling 5 = .ok (.aload_n 0, 1) := dc0 (j := 5) sX8_pulling_0 rfl op_42
theorem dX8_pulling_6 : decode cX8_pulling 6 = .ok (.getfield 13, 3) := dcB (j := 6) (f := Instr.getfield) sX8_pulling_0 rfl op_180 rfl
theorem dX8_pulling_9 : decode cX8_pulling 9 = .ok (.iconst 0, 1) := dc0 (j := 9) sX8_pulling_0 rfl op_3
theorem dX8_pulling_10 : decode cX8_pulling 10 = .ok (.iaload, 1) := dc0 (j := 10) sX8_pulling_0 rfl op_46
theorem dX8_pulling_11 : decode cX8_pulling 11 = .ok (.if_icmp .ge 32, 3) := dcTp (j := 11) (v := 32) (f := Instr.if_icmp .ge) sX8_pulling_0 rfl op_162 rfl rfl
theorem dX8_pulling_14 : decode cX8_pulling 14 = .ok (.iload_n 2, 1) := dc0 (j := 14) sX8_pulling_0 rfl op_28
theorem dX8_pulling_15 : decode cX8_pulling 15 = .ok (.aload_n 0, 1) := dc0 (j := 15) sX8_pulling_0 rfl op_42
theorem dX8_pulling_16 : decode cX8_pulling 16 = .ok (.getfield 36, 3) := dcB (j := 16) (f := Instr.getfield) sX8_pulling_0 rfl op_180 rfl
theorem dX8_pulling_19 : decode cX8_pulling 19 = .ok (.iload_n 3, 1) := dc0 (j := 19) sX8_pulling_0 rfl op_29
theorem dX8_pulling_20 : decode cX8_pulling 20 = .ok (.laload, 1) := dc0 (j := 20) sX8_pulling_0 rfl op_47
theorem dX8_pulling_21 : decode cX8_pulling 21 = .ok (.iload_n 1, 1) := dc0 (j := 21) sX8_pulling_0 rfl op_27
theorem dX8_pulling_22 : decode cX8_pulling 22 = .ok (.invokestatic 163, 3) := dcB (j := 22) (f := Instr.invokestatic) sX8_pulling_0 rfl op_184 rfl
theorem dX8_pulling_25 : decode cX8_pulling 25 = .ok (.ifCond .eq 9, 3) := dcTp (j := 25) (v := 9) (f := Instr.ifCond .eq) sX8_pulling_0 rfl op_153 rfl rfl
theorem dX8_pulling_28 : decode cX8_pulling 28 = .ok (.iconst 1, 1) := dc0 (j := 28) sX8_pulling_0 rfl op_4
theorem dX8_pulling_29 : decode cX8_pulling 29 = .ok (.iload_n 3, 1) := dc0 (j := 29) sX8_pulling_0 rfl op_29
theorem dX8_pulling_30 : decode cX8_pulling 30 = .ok (.ishl, 1) := dc0 (j := 30) sX8_pulling_0 rfl op_120
theorem dX8_pulling_31 : decode cX8_pulling 31 = .ok (.goto 4, 3) := dcTp (j := 31) (v := 4) (f := Instr.goto) sX8_pulling_0 rfl op_167 rfl rfl
theorem dX8_pulling_34 : decode cX8_pulling 34 = .ok (.iconst 0, 1) := dc0 (j := 34) sX8_pulling_0 rfl op_3
theorem dX8_pulling_35 : decode cX8_pulling 35 = .ok (.ior, 1) := dc0 (j := 35) sX8_pulling_0 rfl op_128
theorem sX8_pulling_36 : sgm cX8_pulling 36 [61, 132, 3, 1, 167, 255, 220, 28, 172] := by decide +kernel
theorem dX8_pulling_36 : decode cX8_pulling 36 = .ok (.istore_n 2, 1) := dc0 (j := 0) sX8_pulling_36 rfl op_61
theorem dX8_pulling_37 : decode cX8_pulling 37 = .ok (.iinc 3 1, 3) := dcIp (j := 1) sX8_pulling_36 rfl op_132 rfl
theorem dX8_pulling_40 : decode cX8_pulling 40 = .ok (.goto (-36), 3) := dcTn (j := 4) (v := 36) (f := Instr.goto) sX8_pulling_36 rfl op_167 rfl rfl rfl
theorem dX8_pulling_43 : decode cX8_pulling 43 = .ok (.iload_n 2, 1) := dc0 (j := 7) sX8_pulling_36 rfl op_28
theorem dX8_pulling_44 : decode cX8_pulling 44 = .ok (.ireturn, 1) := dc0 (j := 8) sX8_pulling_36 rfl op_172
theorem sX8_holdsBy_0 : sgm cX8_holdsBy 0 [42, 182, 0, 200, 2, 61, 42, 2, 181, 0, 230, 3, 62, 29, 17, 0, 201, 27, 104, 5, 96, 162, 0, 119, 28, 2, 160, 0, 114, 42, 29, 27, 112, 182, 0, 233] := by decide +kernel
theorem dX8_holdsBy_0 : decode cX8_holdsBy 0 = .ok (.aload_n 0, 1) := dc0 (j := 0) sX8_holdsBy_0 rfl op_42
theorem dX8_holdsBy_1 : decode cX8_holdsBy 1 = .ok (.invokevirtual 200, 3) := dcB (j := 1) (f := Instr.invokevirtual) sX8_holdsBy_0 rfl op_182 rfl
theorem dX8_holdsBy_4 : decode cX8_holdsBy 4 = .ok (.iconst (-1), 1) := dc0 (j := 4) sX8_holdsBy_0 rfl op_2
theorem dX8_holdsBy_5 : decode cX8_holdsBy 5 = .ok (.istore_n 2, 1) := dc0 (j := 5) sX8_holdsBy_0 rfl op_61
theorem dX8_holdsBy_6 : decode cX8_holdsBy 6 = .ok (.aload_n 0, 1) := dc0 (j := 6) sX8_holdsBy_0 rfl op_42
theorem dX8_holdsBy_7 : decode cX8_holdsBy 7 = .ok (.iconst (-1), 1) := dc0 (j := 7) sX8_holdsBy_0 rfl op_2
theorem dX8_holdsBy_8 : decode cX8_holdsBy 8 = .ok (.putfield 230, 3) := dcB (j := 8) (f := Instr.putfield) sX8_holdsBy_0 rfl op_181 rfl
theorem dX8_holdsBy_11 : decode cX8_holdsBy 11 = .ok (.iconst 0, 1) := dc0 (j := 11) sX8_holdsBy_0 rfl op_3
theorem dX8_holdsBy_12 : decode cX8_holdsBy 12 = .ok (.istore_n 3, 1) := dc0 (j := 12) sX8_holdsBy_0 rfl op_62
theorem dX8_holdsBy_13 : decode cX8_holdsBy 13 = .ok (.iload_n 3, 1) := dc0 (j := 13) sX8_holdsBy_0 rfl op_29
theorem dX8_holdsBy_14 : decode cX8_holdsBy 14 = .ok (.sipush 201, 3) := dcTp (j := 14) (v := 201) (f := Instr.sipush) sX8_holdsBy_0 rfl op_17 rfl rfl
theorem dX8_holdsBy_17 : decode cX8_holdsBy 17 = .ok (.iload_n 1, 1) := dc0 (j := 17) sX8_holdsBy_0 rfl op_27
theorem dX8_holdsBy_18 : decode cX8_holdsBy 18 = .ok (.imul, 1) := dc0 (j := 18) sX8_holdsBy_0 rfl op_104
theorem dX8_holdsBy_19 : decode cX8_holdsBy 19 = .ok (.iconst 2, 1) := dc0 (j := 19) sX8_holdsBy_0 rfl op_5
theorem dX8_holdsBy_20 : decode cX8_holdsBy 20 = .ok (.iadd, 1) := dc0 (j := 20) sX8_holdsBy_0 rfl op_96
theorem dX8_holdsBy_21 : decode cX8_holdsBy 21 = .ok (.if_icmp .ge 119, 3) := dcTp (j := 21) (v := 119) (f := Instr.if_icmp .ge) sX8_holdsBy_0 rfl op_162 rfl rfl
theorem dX8_holdsBy_24 : decode cX8_holdsBy 24 = .ok (.iload_n 2, 1) := dc0 (j := 24) sX8_holdsBy_0 rfl op_28
theorem dX8_holdsBy_25 : decode cX8_holdsBy 25 = .ok (.iconst (-1), 1) := dc0 (j := 25) sX8_holdsBy_0 rfl op_2
theorem dX8_holdsBy_26 : decode cX8_holdsBy 26 = .ok (.if_icmp .ne 114, 3) := dcTp (j := 26) (v := 114) (f := Instr.if_icmp .ne) sX8_holdsBy_0 rfl op_160 rfl rfl
theorem dX8_holdsBy_29 : decode cX8_holdsBy 29 = .ok (.aload_n 0, 1) := dc0 (j := 29) sX8_holdsBy_0 rfl op_42
theorem dX8_holdsBy_30 : decode cX8_holdsBy 30 = .ok (.iload_n 3, 1) := dc0 (j := 30) sX8_holdsBy_0 rfl op_29
theorem dX8_holdsBy_31 : decode cX8_holdsBy 31 = .ok (.iload_n 1, 1) := dc0 (j := 31) sX8_holdsBy_0 rfl op_27
theorem dX8_holdsBy_32 : decode cX8_holdsBy 32 = .ok (.irem, 1) := dc0 (j := 32) sX8_holdsBy_0 rfl op_112
theorem dX8_holdsBy_33 : decode cX8_holdsBy 33 = .ok (.invokevirtual 233, 3) := dcB (j := 33) (f := Instr.invokevirtual) sX8_holdsBy_0 rfl op_182 rfl
theorem sX8_holdsBy_36 : sgm cX8_holdsBy 36 [54, 4, 3, 54, 5, 21, 5, 42, 180, 0, 13, 3, 46, 162, 0, 25, 42, 180, 0, 30, 21, 5, 42, 21, 5, 21, 4, 3, 182, 0, 170, 79, 132, 5, 1] := by decide +kernel
theorem dX8_holdsBy_36 : decode cX8_holdsBy 36 = .ok (.istore 4, 2) := dcA (j := 0) (f := Instr.istore) sX8_holdsBy_36 rfl op_54
theorem dX8_holdsBy_38 : decode cX8_holdsBy 38 = .ok (.iconst 0, 1) := dc0 (j := 2) sX8_holdsBy_36 rfl op_3
theorem dX8_holdsBy_39 : decode cX8_holdsBy 39 = .ok (.istore 5, 2) := dcA (j := 3) (f := Instr.istore) sX8_holdsBy_36 rfl op_54
theorem dX8_holdsBy_41 : decode cX8_holdsBy 41 = .ok (.iload 5, 2) := dcA (j := 5) (f := Instr.iload) sX8_holdsBy_36 rfl op_21
theorem dX8_holdsBy_43 : decode cX8_holdsBy 43 = .ok (.aload_n 0, 1) := dc0 (j := 7) sX8_holdsBy_36 rfl op_42
theorem dX8_holdsBy_44 : decode cX8_holdsBy 44 = .ok (.getfield 13, 3) := dcB (j := 8) (f := Instr.getfield) sX8_holdsBy_36 rfl op_180 rfl
theorem dX8_holdsBy_47 : decode cX8_holdsBy 47 = .ok (.iconst 0, 1) := dc0 (j := 11) sX8_holdsBy_36 rfl op_3
theorem dX8_holdsBy_48 : decode cX8_holdsBy 48 = .ok (.iaload, 1) := dc0 (j := 12) sX8_holdsBy_36 rfl op_46
theorem dX8_holdsBy_49 : decode cX8_holdsBy 49 = .ok (.if_icmp .ge 25, 3) := dcTp (j := 13) (v := 25) (f := Instr.if_icmp .ge) sX8_holdsBy_36 rfl op_162 rfl rfl
theorem dX8_holdsBy_52 : decode cX8_holdsBy 52 = .ok (.aload_n 0, 1) := dc0 (j := 16) sX8_holdsBy_36 rfl op_42
theorem dX8_holdsBy_53 : decode cX8_holdsBy 53 = .ok (.getfield 30, 3) := dcB (j := 17) (f := Instr.getfield) sX8_holdsBy_36 rfl op_180 rfl
theorem dX8_holdsBy_56 : decode cX8_holdsBy 56 = .ok (.iload 5, 2) := dcA (j := 20) (f := Instr.iload) sX8_holdsBy_36 rfl op_21
theorem dX8_holdsBy_58 : decode cX8_holdsBy 58 = .ok (.aload_n 0, 1) := dc0 (j := 22) sX8_holdsBy_36 rfl op_42
theorem dX8_holdsBy_59 : decode cX8_holdsBy 59 = .ok (.iload 5, 2) := dcA (j := 23) (f := Instr.iload) sX8_holdsBy_36 rfl op_21
theorem dX8_holdsBy_61 : decode cX8_holdsBy 61 = .ok (.iload 4, 2) := dcA (j := 25) (f := Instr.iload) sX8_holdsBy_36 rfl op_21
theorem dX8_holdsBy_63 : decode cX8_holdsBy 63 = .ok (.iconst 0, 1) := dc0 (j := 27) sX8_holdsBy_36 rfl op_3
theorem dX8_holdsBy_64 : decode cX8_holdsBy 64 = .ok (.invokevirtual 170, 3) := dcB (j := 28) (f := Instr.invokevirtual) sX8_holdsBy_36 rfl op_182 rfl
theorem dX8_holdsBy_67 : decode cX8_holdsBy 67 = .ok (.iastore, 1) := dc0 (j := 31) sX8_holdsBy_36 rfl op_79
theorem dX8_holdsBy_68 : decode cX8_holdsBy 68 = .ok (.iinc 5 1, 3) := dcIp (j := 32) sX8_holdsBy_36 rfl op_132 rfl
theorem sX8_holdsBy_71 : sgm cX8_holdsBy 71 [167, 255, 226, 42, 180, 0, 13, 3, 46, 4, 100, 54, 5, 21, 5, 155, 0, 48, 42, 180, 0, 13, 16, 24, 21, 5, 96, 42, 180, 0, 30, 21, 5, 46, 79, 42] := by decide +kernel
theorem dX8_holdsBy_71 : decode cX8_holdsBy 71 = .ok (.goto (-30), 3) := dcTn (j := 0) (v := 30) (f := Instr.goto) sX8_holdsBy_71 rfl op_167 rfl rfl rfl
theorem dX8_holdsBy_74 : decode cX8_holdsBy 74 = .ok (.aload_n 0, 1) := dc0 (j := 3) sX8_holdsBy_71 rfl op_42
theorem dX8_holdsBy_75 : decode cX8_holdsBy 75 = .ok (.getfield 13, 3) := dcB (j := 4) (f := Instr.getfield) sX8_holdsBy_71 rfl op_180 rfl
theorem dX8_holdsBy_78 : decode cX8_holdsBy 78 = .ok (.iconst 0, 1) := dc0 (j := 7) sX8_holdsBy_71 rfl op_3
theorem dX8_holdsBy_79 : decode cX8_holdsBy 79 = .ok (.iaload, 1) := dc0 (j := 8) sX8_holdsBy_71 rfl op_46
theorem dX8_holdsBy_80 : decode cX8_holdsBy 80 = .ok (.iconst 1, 1) := dc0 (j := 9) sX8_holdsBy_71 rfl op_4
theorem dX8_holdsBy_81 : decode cX8_holdsBy 81 = .ok (.isub, 1) := dc0 (j := 10) sX8_holdsBy_71 rfl op_100
theorem dX8_holdsBy_82 : decode cX8_holdsBy 82 = .ok (.istore 5, 2) := dcA (j := 11) (f := Instr.istore) sX8_holdsBy_71 rfl op_54
theorem dX8_holdsBy_84 : decode cX8_holdsBy 84 = .ok (.iload 5, 2) := dcA (j := 13) (f := Instr.iload) sX8_holdsBy_71 rfl op_21
theorem dX8_holdsBy_86 : decode cX8_holdsBy 86 = .ok (.ifCond .lt 48, 3) := dcTp (j := 15) (v := 48) (f := Instr.ifCond .lt) sX8_holdsBy_71 rfl op_155 rfl rfl
theorem dX8_holdsBy_89 : decode cX8_holdsBy 89 = .ok (.aload_n 0, 1) := dc0 (j := 18) sX8_holdsBy_71 rfl op_42
theorem dX8_holdsBy_90 : decode cX8_holdsBy 90 = .ok (.getfield 13, 3) := dcB (j := 19) (f := Instr.getfield) sX8_holdsBy_71 rfl op_180 rfl
theorem dX8_holdsBy_93 : decode cX8_holdsBy 93 = .ok (.bipush 24, 2) := dcSp (j := 22) (a := 24) (f := Instr.bipush) sX8_holdsBy_71 rfl op_16 rfl
theorem dX8_holdsBy_95 : decode cX8_holdsBy 95 = .ok (.iload 5, 2) := dcA (j := 24) (f := Instr.iload) sX8_holdsBy_71 rfl op_21
theorem dX8_holdsBy_97 : decode cX8_holdsBy 97 = .ok (.iadd, 1) := dc0 (j := 26) sX8_holdsBy_71 rfl op_96
theorem dX8_holdsBy_98 : decode cX8_holdsBy 98 = .ok (.aload_n 0, 1) := dc0 (j := 27) sX8_holdsBy_71 rfl op_42
theorem dX8_holdsBy_99 : decode cX8_holdsBy 99 = .ok (.getfield 30, 3) := dcB (j := 28) (f := Instr.getfield) sX8_holdsBy_71 rfl op_180 rfl
theorem dX8_holdsBy_102 : decode cX8_holdsBy 102 = .ok (.iload 5, 2) := dcA (j := 31) (f := Instr.iload) sX8_holdsBy_71 rfl op_21
theorem dX8_holdsBy_104 : decode cX8_holdsBy 104 = .ok (.iaload, 1) := dc0 (j := 33) sX8_holdsBy_71 rfl op_46
theorem dX8_holdsBy_105 : decode cX8_holdsBy 105 = .ok (.iastore, 1) := dc0 (j := 34) sX8_holdsBy_71 rfl op_79
theorem dX8_holdsBy_106 : decode cX8_holdsBy 106 = .ok (.aload_n 0, 1) := dc0 (j := 35) sX8_holdsBy_71 rfl op_42
theorem sX8_holdsBy_107 : sgm cX8_holdsBy 107 [21, 5, 182, 0, 174, 153, 0, 6, 167, 0, 13, 29, 4, 96, 61, 42, 21, 5, 181, 0, 230, 132, 5, 255, 167, 255, 209, 132, 3, 1, 167, 255, 132, 42] := by decide +kernel
theorem dX8_holdsBy_107 : decode cX8_holdsBy 107 = .ok (.iload 5, 2) := dcA (j := 0) (f := Instr.iload) sX8_holdsBy_107 rfl op_21
theorem dX8_holdsBy_109 : decode cX8_holdsBy 109 = .ok (.invokevirtual 174, 3) := dcB (j := 2) (f := Instr.invokevirtual) sX8_holdsBy_107 rfl op_182 rfl
theorem dX8_holdsBy_112 : decode cX8_holdsBy 112 = .ok (.ifCond .eq 6, 3) := dcTp (j := 5) (v := 6) (f := Instr.ifCond .eq) sX8_holdsBy_107 rfl op_153 rfl rfl
theorem dX8_holdsBy_115 : decode cX8_holdsBy 115 = .ok (.goto 13, 3) := dcTp (j := 8) (v := 13) (f := Instr.goto) sX8_holdsBy_107 rfl op_167 rfl rfl
theorem dX8_holdsBy_118 : decode cX8_holdsBy 118 = .ok (.iload_n 3, 1) := dc0 (j := 11) sX8_holdsBy_107 rfl op_29
theorem dX8_holdsBy_119 : decode cX8_holdsBy 119 = .ok (.iconst 1, 1) := dc0 (j := 12) sX8_holdsBy_107 rfl op_4
theorem dX8_holdsBy_120 : decode cX8_holdsBy 120 = .ok (.iadd, 1) := dc0 (j := 13) sX8_holdsBy_107 rfl op_96
theorem dX8_holdsBy_121 : decode cX8_holdsBy 121 = .ok (.istore_n 2, 1) := dc0 (j := 14) sX8_holdsBy_107 rfl op_61
theorem dX8_holdsBy_122 : decode cX8_holdsBy 122 = .ok (.aload_n 0, 1) := dc0 (j := 15) sX8_holdsBy_107 rfl op_42
theorem dX8_holdsBy_123 : decode cX8_holdsBy 123 = .ok (.iload 5, 2) := dcA (j := 16) (f := Instr.iload) sX8_holdsBy_107 rfl op_21
theorem dX8_holdsBy_125 : decode cX8_holdsBy 125 = .ok (.putfield 230, 3) := dcB (j := 18) (f := Instr.putfield) sX8_holdsBy_107 rfl op_181 rfl
theorem dX8_holdsBy_128 : decode cX8_holdsBy 128 = .ok (.iinc 5 (-1), 3) := dcIn (j := 21) (v := 1) sX8_holdsBy_107 rfl op_132 rfl rfl rfl
theorem dX8_holdsBy_131 : decode cX8_holdsBy 131 = .ok (.goto (-47), 3) := dcTn (j := 24) (v := 47) (f := Instr.goto) sX8_holdsBy_107 rfl op_167 rfl rfl rfl
theorem dX8_holdsBy_134 : decode cX8_holdsBy 134 = .ok (.iinc 3 1, 3) := dcIp (j := 27) sX8_holdsBy_107 rfl op_132 rfl
theorem dX8_holdsBy_137 : decode cX8_holdsBy 137 = .ok (.goto (-124), 3) := dcTn (j := 30) (v := 124) (f := Instr.goto) sX8_holdsBy_107 rfl op_167 rfl rfl rfl
theorem dX8_holdsBy_140 : decode cX8_holdsBy 140 = .ok (.aload_n 0, 1) := dc0 (j := 33) sX8_holdsBy_107 rfl op_42
theorem sX8_holdsBy_141 : sgm cX8_holdsBy 141 [182, 0, 209, 28, 172] := by decide +kernel
theorem dX8_holdsBy_141 : decode cX8_holdsBy 141 = .ok (.invokevirtual 209, 3) := dcB (j := 0) (f := Instr.invokevirtual) sX8_holdsBy_141 rfl op_182 rfl
theorem dX8_holdsBy_144 : decode cX8_holdsBy 144 = .ok (.iload_n 2, 1) := dc0 (j := 3) sX8_holdsBy_141 rfl op_28
theorem dX8_holdsBy_145 : decode cX8_holdsBy 145 = .ok (.ireturn, 1) := dc0 (j := 4) sX8_holdsBy_141 rfl op_172
theorem sX8_takesRhythm_0 : sgm cX8_takesRhythm 0 [42, 180, 0, 55, 27, 46, 2, 160, 0, 6, 16, 250, 172, 42, 180, 0, 58, 27, 46, 42, 180, 0, 13, 3, 46, 159, 0, 6, 16, 249, 172, 28, 133, 10] := by decide +kernel
theorem dX8_takesRhythm_0 : decode cX8_takesRhythm 0 = .ok (.aload_n 0, 1) := dc0 (j := 0) sX8_takesRhythm_0 rfl op_42
theorem dX8_takesRhythm_1 : decode cX8_takesRhythm 1 = .ok (.getfield 55, 3) := dcB (j := 1) (f := Instr.getfield) sX8_takesRhythm_0 rfl op_180 rfl
theorem dX8_takesRhythm_4 : decode cX8_takesRhythm 4 = .ok (.iload_n 1, 1) := dc0 (j := 4) sX8_takesRhythm_0 rfl op_27
theorem dX8_takesRhythm_5 : decode cX8_takesRhythm 5 = .ok (.iaload, 1) := dc0 (j := 5) sX8_takesRhythm_0 rfl op_46
theorem dX8_takesRhythm_6 : decode cX8_takesRhythm 6 = .ok (.iconst (-1), 1) := dc0 (j := 6) sX8_takesRhythm_0 rfl op_2
theorem dX8_takesRhythm_7 : decode cX8_takesRhythm 7 = .ok (.if_icmp .ne 6, 3) := dcTp (j := 7) (v := 6) (f := Instr.if_icmp .ne) sX8_takesRhythm_0 rfl op_160 rfl rfl
theorem dX8_takesRhythm_10 : decode cX8_takesRhythm 10 = .ok (.bipush (-6), 2) := dcSn (j := 10) (v := 6) (f := Instr.bipush) sX8_takesRhythm_0 rfl op_16 rfl rfl rfl
theorem dX8_takesRhythm_12 : decode cX8_takesRhythm 12 = .ok (.ireturn, 1) := dc0 (j := 12) sX8_takesRhythm_0 rfl op_172
theorem dX8_takesRhythm_13 : decode cX8_takesRhythm 13 = .ok (.aload_n 0, 1) := dc0 (j := 13) sX8_takesRhythm_0 rfl op_42
theorem dX8_takesRhythm_14 : decode cX8_takesRhythm 14 = .ok (.getfield 58, 3) := dcB (j := 14) (f := Instr.getfield) sX8_takesRhythm_0 rfl op_180 rfl
theorem dX8_takesRhythm_17 : decode cX8_takesRhythm 17 = .ok (.iload_n 1, 1) := dc0 (j := 17) sX8_takesRhythm_0 rfl op_27
theorem dX8_takesRhythm_18 : decode cX8_takesRhythm 18 = .ok (.iaload, 1) := dc0 (j := 18) sX8_takesRhythm_0 rfl op_46
theorem dX8_takesRhythm_19 : decode cX8_takesRhythm 19 = .ok (.aload_n 0, 1) := dc0 (j := 19) sX8_takesRhythm_0 rfl op_42
theorem dX8_takesRhythm_20 : decode cX8_takesRhythm 20 = .ok (.getfield 13, 3) := dcB (j := 20) (f := Instr.getfield) sX8_takesRhythm_0 rfl op_180 rfl
theorem dX8_takesRhythm_23 : decode cX8_takesRhythm 23 = .ok (.iconst 0, 1) := dc0 (j := 23) sX8_takesRhythm_0 rfl op_3
theorem dX8_takesRhythm_24 : decode cX8_takesRhythm 24 = .ok (.iaload, 1) := dc0 (j := 24) sX8_takesRhythm_0 rfl op_46
theorem dX8_takesRhythm_25 : decode cX8_takesRhythm 25 = .ok (.if_icmp .eq 6, 3) := dcTp (j := 25) (v := 6) (f := Instr.if_icmp .eq) sX8_takesRhythm_0 rfl op_159 rfl rfl
theorem dX8_takesRhythm_28 : decode cX8_takesRhythm 28 = .ok (.bipush (-7), 2) := dcSn (j := 28) (v := 7) (f := Instr.bipush) sX8_takesRhythm_0 rfl op_16 rfl rfl rfl
theorem dX8_takesRhythm_30 : decode cX8_takesRhythm 30 = .ok (.ireturn, 1) := dc0 (j := 30) sX8_takesRhythm_0 rfl op_172
theorem dX8_takesRhythm_31 : decode cX8_takesRhythm 31 = .ok (.iload_n 2, 1) := dc0 (j := 31) sX8_takesRhythm_0 rfl op_28
theorem dX8_takesRhythm_32 : decode cX8_takesRhythm 32 = .ok (.i2l, 1) := dc0 (j := 32) sX8_takesRhythm_0 rfl op_133
theorem dX8_takesRhythm_33 : decode cX8_takesRhythm 33 = .ok (.lconst 1, 1) := dc0 (j := 33) sX8_takesRhythm_0 rfl op_10
theorem sX8_takesRhythm_34 : sgm cX8_takesRhythm 34 [20, 0, 236, 184, 0, 124, 154, 0, 6, 16, 253, 172, 3, 62, 29, 42, 180, 0, 13, 3, 46, 162, 0, 26, 42, 180, 0, 36, 29, 42, 180, 0, 61, 16, 40, 27] := by decide +kernel
theorem dX8_takesRhythm_34 : decode cX8_takesRhythm 34 = .ok (.ldc2_w 236, 3) := dcB (j := 0) (f := Instr.ldc2_w) sX8_takesRhythm_34 rfl op_20 rfl
theorem dX8_takesRhythm_37 : decode cX8_takesRhythm 37 = .ok (.invokestatic 124, 3) := dcB (j := 3) (f := Instr.invokestatic) sX8_takesRhythm_34 rfl op_184 rfl
theorem dX8_takesRhythm_40 : decode cX8_takesRhythm 40 = .ok (.ifCond .ne 6, 3) := dcTp (j := 6) (v := 6) (f := Instr.ifCond .ne) sX8_takesRhythm_34 rfl op_154 rfl rfl
theorem dX8_takesRhythm_43 : decode cX8_takesRhythm 43 = .ok (.bipush (-3), 2) := dcSn (j := 9) (v := 3) (f := Instr.bipush) sX8_takesRhythm_34 rfl op_16 rfl rfl rfl
theorem dX8_takesRhythm_45 : decode cX8_takesRhythm 45 = .ok (.ireturn, 1) := dc0 (j := 11) sX8_takesRhythm_34 rfl op_172
theorem dX8_takesRhythm_46 : decode cX8_takesRhythm 46 = .ok (.iconst 0, 1) := dc0 (j := 12) sX8_takesRhythm_34 rfl op_3
theorem dX8_takesRhythm_47 : decode cX8_takesRhythm 47 = .ok (.istore_n 3, 1) := dc0 (j := 13) sX8_takesRhythm_34 rfl op_62
theorem dX8_takesRhythm_48 : decode cX8_takesRhythm 48 = .ok (.iload_n 3, 1) := dc0 (j := 14) sX8_takesRhythm_34 rfl op_29
theorem dX8_takesRhythm_49 : decode cX8_takesRhythm 49 = .ok (.aload_n 0, 1) := dc0 (j := 15) sX8_takesRhythm_34 rfl op_42
theorem dX8_takesRhythm_50 : decode cX8_takesRhythm 50 = .ok (.getfield 13, 3) := dcB (j := 16) (f := Instr.getfield) sX8_takesRhythm_34 rfl op_180 rfl
theorem dX8_takesRhythm_53 : decode cX8_takesRhythm 53 = .ok (.iconst 0, 1) := dc0 (j := 19) sX8_takesRhythm_34 rfl op_3
theorem dX8_takesRhythm_54 : decode cX8_takesRhythm 54 = .ok (.iaload, 1) := dc0 (j := 20) sX8_takesRhythm_34 rfl op_46
theorem dX8_takesRhythm_55 : decode cX8_takesRhythm 55 = .ok (.if_icmp .ge 26, 3) := dcTp (j := 21) (v := 26) (f := Instr.if_icmp .ge) sX8_takesRhythm_34 rfl op_162 rfl rfl
theorem dX8_takesRhythm_58 : decode cX8_takesRhythm 58 = .ok (.aload_n 0, 1) := dc0 (j := 24) sX8_takesRhythm_34 rfl op_42
theorem dX8_takesRhythm_59 : decode cX8_takesRhythm 59 = .ok (.getfield 36, 3) := dcB (j := 25) (f := Instr.getfield) sX8_takesRhythm_34 rfl op_180 rfl
theorem dX8_takesRhythm_62 : decode cX8_takesRhythm 62 = .ok (.iload_n 3, 1) := dc0 (j := 28) sX8_takesRhythm_34 rfl op_29
theorem dX8_takesRhythm_63 : decode cX8_takesRhythm 63 = .ok (.aload_n 0, 1) := dc0 (j := 29) sX8_takesRhythm_34 rfl op_42
theorem dX8_takesRhythm_64 : decode cX8_takesRhythm 64 = .ok (.getfield 61, 3) := dcB (j := 30) (f := Instr.getfield) sX8_takesRhythm_34 rfl op_180 rfl
theorem dX8_takesRhythm_67 : decode cX8_takesRhythm 67 = .ok (.bipush 40, 2) := dcSp (j := 33) (a := 40) (f := Instr.bipush) sX8_takesRhythm_34 rfl op_16 rfl
theorem dX8_takesRhythm_69 : decode cX8_takesRhythm 69 = .ok (.iload_n 1, 1) := dc0 (j := 35) sX8_takesRhythm_34 rfl op_27
theorem sX8_takesRhythm_70 : sgm cX8_takesRhythm 70 [104, 29, 96, 47, 80, 132, 3, 1, 167, 255, 226, 3, 172] := by decide +kernel
theorem dX8_takesRhythm_70 : decode cX8_takesRhythm 70 = .ok (.imul, 1) := dc0 (j := 0) sX8_takesRhythm_70 rfl op_104
theorem dX8_takesRhythm_71 : decode cX8_takesRhythm 71 = .ok (.iload_n 3, 1) := dc0 (j := 1) sX8_takesRhythm_70 rfl op_29
theorem dX8_takesRhythm_72 : decode cX8_takesRhythm 72 = .ok (.iadd, 1) := dc0 (j := 2) sX8_takesRhythm_70 rfl op_96
theorem dX8_takesRhythm_73 : decode cX8_takesRhythm 73 = .ok (.laload, 1) := dc0 (j := 3) sX8_takesRhythm_70 rfl op_47
theorem dX8_takesRhythm_74 : decode cX8_takesRhythm 74 = .ok (.lastore, 1) := dc0 (j := 4) sX8_takesRhythm_70 rfl op_80
theorem dX8_takesRhythm_75 : decode cX8_takesRhythm 75 = .ok (.iinc 3 1, 3) := dcIp (j := 5) sX8_takesRhythm_70 rfl op_132 rfl
theorem dX8_takesRhythm_78 : decode cX8_takesRhythm 78 = .ok (.goto (-30), 3) := dcTn (j := 8) (v := 30) (f := Instr.goto) sX8_takesRhythm_70 rfl op_167 rfl rfl rfl
theorem dX8_takesRhythm_81 : decode cX8_takesRhythm 81 = .ok (.iconst 0, 1) := dc0 (j := 11) sX8_takesRhythm_70 rfl op_3
theorem dX8_takesRhythm_82 : decode cX8_takesRhythm 82 = .ok (.ireturn, 1) := dc0 (j := 12) sX8_takesRhythm_70 rfl op_172
theorem sX8_holds_0 : sgm cX8_holds 0 [42, 3, 181, 0, 1, 27, 133, 9, 20, 0, 196, 184, 0, 124, 153, 0, 13, 29, 133, 9, 10, 184, 0, 124, 154, 0, 6, 16, 254, 172, 42, 27, 28, 182, 0, 238] := by decide +kernel
theorem dX8_holds_0 : decode cX8_holds 0 = .ok (.aload_n 0, 1) := dc0 (j := 0) sX8_holds_0 rfl op_42
theorem dX8_holds_1 : decode cX8_holds 1 = .ok (.iconst 0, 1) := dc0 (j := 1) sX8_holds_0 rfl op_3
theorem dX8_holds_2 : decode cX8_holds 2 = .ok (.putfield 1, 3) := dcB (j := 2) (f := Instr.putfield) sX8_holds_0 rfl op_181 rfl
theorem dX8_holds_5 : decode cX8_holds 5 = .ok (.iload_n 1, 1) := dc0 (j := 5) sX8_holds_0 rfl op_27
theorem dX8_holds_6 : decode cX8_holds 6 = .ok (.i2l, 1) := dc0 (j := 6) sX8_holds_0 rfl op_133
theorem dX8_holds_7 : decode cX8_holds 7 = .ok (.lconst 0, 1) := dc0 (j := 7) sX8_holds_0 rfl op_9
theorem dX8_holds_8 : decode cX8_holds 8 = .ok (.ldc2_w 196, 3) := dcB (j := 8) (f := Instr.ldc2_w) sX8_holds_0 rfl op_20 rfl
theorem dX8_holds_11 : decode cX8_holds 11 = .ok (.invokestatic 124, 3) := dcB (j := 11) (f := Instr.invokestatic) sX8_holds_0 rfl op_184 rfl
theorem dX8_holds_14 : decode cX8_holds 14 = .ok (.ifCond .eq 13, 3) := dcTp (j := 14) (v := 13) (f := Instr.ifCond .eq) sX8_holds_0 rfl op_153 rfl rfl
theorem dX8_holds_17 : decode cX8_holds 17 = .ok (.iload_n 3, 1) := dc0 (j := 17) sX8_holds_0 rfl op_29
theorem dX8_holds_18 : decode cX8_holds 18 = .ok (.i2l, 1) := dc0 (j := 18) sX8_holds_0 rfl op_133
theorem dX8_holds_19 : decode cX8_holds 19 = .ok (.lconst 0, 1) := dc0 (j := 19) sX8_holds_0 rfl op_9
theorem dX8_holds_20 : decode cX8_holds 20 = .ok (.lconst 1, 1) := dc0 (j := 20) sX8_holds_0 rfl op_10
theorem dX8_holds_21 : decode cX8_holds 21 = .ok (.invokestatic 124, 3) := dcB (j := 21) (f := Instr.invokestatic) sX8_holds_0 rfl op_184 rfl
theorem dX8_holds_24 : decode cX8_holds 24 = .ok (.ifCond .ne 6, 3) := dcTp (j := 24) (v := 6) (f := Instr.ifCond .ne) sX8_holds_0 rfl op_154 rfl rfl
theorem dX8_holds_27 : decode cX8_holds 27 = .ok (.bipush (-2), 2) := dcSn (j := 27) (v := 2) (f := Instr.bipush) sX8_holds_0 rfl op_16 rfl rfl rfl
theorem dX8_holds_29 : decode cX8_holds 29 = .ok (.ireturn, 1) := dc0 (j := 29) sX8_holds_0 rfl op_172
theorem dX8_holds_30 : decode cX8_holds 30 = .ok (.aload_n 0, 1) := dc0 (j := 30) sX8_holds_0 rfl op_42
theorem dX8_holds_31 : decode cX8_holds 31 = .ok (.iload_n 1, 1) := dc0 (j := 31) sX8_holds_0 rfl op_27
theorem dX8_holds_32 : decode cX8_holds 32 = .ok (.iload_n 2, 1) := dc0 (j := 32) sX8_holds_0 rfl op_28
theorem dX8_holds_33 : decode cX8_holds 33 = .ok (.invokevirtual 238, 3) := dcB (j := 33) (f := Instr.invokevirtual) sX8_holds_0 rfl op_182 rfl
theorem sX8_holds_36 : sgm cX8_holds 36 [54, 4, 21, 4, 153, 0, 6, 21, 4, 172, 42, 28, 182, 0, 241, 54, 5, 29, 154, 0, 8, 21, 5, 167, 0, 7, 42, 180, 0, 230, 172] := by decide +kernel
theorem dX8_holds_36 : decode cX8_holds 36 = .ok (.istore 4, 2) := dcA (j := 0) (f := Instr.istore) sX8_holds_36 rfl op_54
theorem dX8_holds_38 : decode cX8_holds 38 = .ok (.iload 4, 2) := dcA (j := 2) (f := Instr.iload) sX8_holds_36 rfl op_21
theorem dX8_holds_40 : decode cX8_holds 40 = .ok (.ifCond .eq 6, 3) := dcTp (j := 4) (v := 6) (f := Instr.ifCond .eq) sX8_holds_36 rfl op_153 rfl rfl
theorem dX8_holds_43 : decode cX8_holds 43 = .ok (.iload 4, 2) := dcA (j := 7) (f := Instr.iload) sX8_holds_36 rfl op_21
theorem dX8_holds_45 : decode cX8_holds 45 = .ok (.ireturn, 1) := dc0 (j := 9) sX8_holds_36 rfl op_172
theorem dX8_holds_46 : decode cX8_holds 46 = .ok (.aload_n 0, 1) := dc0 (j := 10) sX8_holds_36 rfl op_42
theorem dX8_holds_47 : decode cX8_holds 47 = .ok (.iload_n 2, 1) := dc0 (j := 11) sX8_holds_36 rfl op_28
theorem dX8_holds_48 : decode cX8_holds 48 = .ok (.invokevirtual 241, 3) := dcB (j := 12) (f := Instr.invokevirtual) sX8_holds_36 rfl op_182 rfl
theorem dX8_holds_51 : decode cX8_holds 51 = .ok (.istore 5, 2) := dcA (j := 15) (f := Instr.istore) sX8_holds_36 rfl op_54
theorem dX8_holds_53 : decode cX8_holds 53 = .ok (.iload_n 3, 1) := dc0 (j := 17) sX8_holds_36 rfl op_29
theorem dX8_holds_54 : decode cX8_holds 54 = .ok (.ifCond .ne 8, 3) := dcTp (j := 18) (v := 8) (f := Instr.ifCond .ne) sX8_holds_36 rfl op_154 rfl rfl
theorem dX8_holds_57 : decode cX8_holds 57 = .ok (.iload 5, 2) := dcA (j := 21) (f := Instr.iload) sX8_holds_36 rfl op_21
theorem dX8_holds_59 : decode cX8_holds 59 = .ok (.goto 7, 3) := dcTp (j := 23) (v := 7) (f := Instr.goto) sX8_holds_36 rfl op_167 rfl rfl
theorem dX8_holds_62 : decode cX8_holds 62 = .ok (.aload_n 0, 1) := dc0 (j := 26) sX8_holds_36 rfl op_42
theorem dX8_holds_63 : decode cX8_holds 63 = .ok (.getfield 230, 3) := dcB (j := 27) (f := Instr.getfield) sX8_holds_36 rfl op_180 rfl
theorem dX8_holds_66 : decode cX8_holds 66 = .ok (.ireturn, 1) := dc0 (j := 30) sX8_holds_36 rfl op_172
theorem sX8_even_0 : sgm cX8_even 0 [42, 3, 181, 0, 1, 27, 133, 9, 20, 0, 196, 184, 0, 124, 154, 0, 6, 16, 254, 172, 42, 27, 28, 182, 0, 238, 62, 29, 153, 0, 5, 29, 172, 3, 54, 4] := by decide +kernel
theorem dX8_even_0 : decode cX8_even 0 = .ok (.aload_n 0, 1) := dc0 (j := 0) sX8_even_0 rfl op_42
theorem dX8_even_1 : decode cX8_even 1 = .ok (.iconst 0, 1) := dc0 (j := 1) sX8_even_0 rfl op_3
theorem dX8_even_2 : decode cX8_even 2 = .ok (.putfield 1, 3) := dcB (j := 2) (f := Instr.putfield) sX8_even_0 rfl op_181 rfl
theorem dX8_even_5 : decode cX8_even 5 = .ok (.iload_n 1, 1) := dc0 (j := 5) sX8_even_0 rfl op_27
theorem dX8_even_6 : decode cX8_even 6 = .ok (.i2l, 1) := dc0 (j := 6) sX8_even_0 rfl op_133
theorem dX8_even_7 : decode cX8_even 7 = .ok (.lconst 0, 1) := dc0 (j := 7) sX8_even_0 rfl op_9
theorem dX8_even_8 : decode cX8_even 8 = .ok (.ldc2_w 196, 3) := dcB (j := 8) (f := Instr.ldc2_w) sX8_even_0 rfl op_20 rfl
theorem dX8_even_11 : decode cX8_even 11 = .ok (.invokestatic 124, 3) := dcB (j := 11) (f := Instr.invokestatic) sX8_even_0 rfl op_184 rfl
theorem dX8_even_14 : decode cX8_even 14 = .ok (.ifCond .ne 6, 3) := dcTp (j := 14) (v := 6) (f := Instr.ifCond .ne) sX8_even_0 rfl op_154 rfl rfl
theorem dX8_even_17 : decode cX8_even 17 = .ok (.bipush (-2), 2) := dcSn (j := 17) (v := 2) (f := Instr.bipush) sX8_even_0 rfl op_16 rfl rfl rfl
theorem dX8_even_19 : decode cX8_even 19 = .ok (.ireturn, 1) := dc0 (j := 19) sX8_even_0 rfl op_172
theorem dX8_even_20 : decode cX8_even 20 = .ok (.aload_n 0, 1) := dc0 (j := 20) sX8_even_0 rfl op_42
theorem dX8_even_21 : decode cX8_even 21 = .ok (.iload_n 1, 1) := dc0 (j := 21) sX8_even_0 rfl op_27
theorem dX8_even_22 : decode cX8_even 22 = .ok (.iload_n 2, 1) := dc0 (j := 22) sX8_even_0 rfl op_28
theorem dX8_even_23 : decode cX8_even 23 = .ok (.invokevirtual 238, 3) := dcB (j := 23) (f := Instr.invokevirtual) sX8_even_0 rfl op_182 rfl
theorem dX8_even_26 : decode cX8_even 26 = .ok (.istore_n 3, 1) := dc0 (j := 26) sX8_even_0 rfl op_62
theorem dX8_even_27 : decode cX8_even 27 = .ok (.iload_n 3, 1) := dc0 (j := 27) sX8_even_0 rfl op_29
theorem dX8_even_28 : decode cX8_even 28 = .ok (.ifCond .eq 5, 3) := dcTp (j := 28) (v := 5) (f := Instr.ifCond .eq) sX8_even_0 rfl op_153 rfl rfl
theorem dX8_even_31 : decode cX8_even 31 = .ok (.iload_n 3, 1) := dc0 (j := 31) sX8_even_0 rfl op_29
theorem dX8_even_32 : decode cX8_even 32 = .ok (.ireturn, 1) := dc0 (j := 32) sX8_even_0 rfl op_172
theorem dX8_even_33 : decode cX8_even 33 = .ok (.iconst 0, 1) := dc0 (j := 33) sX8_even_0 rfl op_3
theorem dX8_even_34 : decode cX8_even 34 = .ok (.istore 4, 2) := dcA (j := 34) (f := Instr.istore) sX8_even_0 rfl op_54
theorem sX8_even_36 : sgm cX8_even 36 [3, 54, 5, 21, 5, 42, 180, 0, 13, 3, 46, 162, 0, 125, 28, 116, 42, 180, 0, 13, 16, 14, 21, 5, 96, 46, 104, 54, 6, 3, 54, 7, 21, 7, 28] := by decide +kernel
theorem dX8_even_36 : decode cX8_even 36 = .ok (.iconst 0, 1) := dc0 (j := 0) sX8_even_36 rfl op_3
theorem dX8_even_37 : decode cX8_even 37 = .ok (.istore 5, 2) := dcA (j := 1) (f := Instr.istore) sX8_even_36 rfl op_54
theorem dX8_even_39 : decode cX8_even 39 = .ok (.iload 5, 2) := dcA (j := 3) (f := Instr.iload) sX8_even_36 rfl op_21
theorem dX8_even_41 : decode cX8_even 41 = .ok (.aload_n 0, 1) := dc0 (j := 5) sX8_even_36 rfl op_42
theorem dX8_even_42 : decode cX8_even 42 = .ok (.getfield 13, 3) := dcB (j := 6) (f := Instr.getfield) sX8_even_36 rfl op_180 rfl
theorem dX8_even_45 : decode cX8_even 45 = .ok (.iconst 0, 1) := dc0 (j := 9) sX8_even_36 rfl op_3
theorem dX8_even_46 : decode cX8_even 46 = .ok (.iaload, 1) := dc0 (j := 10) sX8_even_36 rfl op_46
theorem dX8_even_47 : decode cX8_even 47 = .ok (.if_icmp .ge 125, 3) := dcTp (j := 11) (v := 125) (f := Instr.if_icmp .ge) sX8_even_36 rfl op_162 rfl rfl
theorem dX8_even_50 : decode cX8_even 50 = .ok (.iload_n 2, 1) := dc0 (j := 14) sX8_even_36 rfl op_28
theorem dX8_even_51 : decode cX8_even 51 = .ok (.ineg, 1) := dc0 (j := 15) sX8_even_36 rfl op_116
theorem dX8_even_52 : decode cX8_even 52 = .ok (.aload_n 0, 1) := dc0 (j := 16) sX8_even_36 rfl op_42
theorem dX8_even_53 : decode cX8_even 53 = .ok (.getfield 13, 3) := dcB (j := 17) (f := Instr.getfield) sX8_even_36 rfl op_180 rfl
theorem dX8_even_56 : decode cX8_even 56 = .ok (.bipush 14, 2) := dcSp (j := 20) (a := 14) (f := Instr.bipush) sX8_even_36 rfl op_16 rfl
theorem dX8_even_58 : decode cX8_even 58 = .ok (.iload 5, 2) := dcA (j := 22) (f := Instr.iload) sX8_even_36 rfl op_21
theorem dX8_even_60 : decode cX8_even 60 = .ok (.iadd, 1) := dc0 (j := 24) sX8_even_36 rfl op_96
theorem dX8_even_61 : decode cX8_even 61 = .ok (.iaload, 1) := dc0 (j := 25) sX8_even_36 rfl op_46
theorem dX8_even_62 : decode cX8_even 62 = .ok (.imul, 1) := dc0 (j := 26) sX8_even_36 rfl op_104
theorem dX8_even_63 : decode cX8_even 63 = .ok (.istore 6, 2) := dcA (j := 27) (f := Instr.istore) sX8_even_36 rfl op_54
theorem dX8_even_65 : decode cX8_even 65 = .ok (.iconst 0, 1) := dc0 (j := 29) sX8_even_36 rfl op_3
theorem dX8_even_66 : decode cX8_even 66 = .ok (.istore 7, 2) := dcA (j := 30) (f := Instr.istore) sX8_even_36 rfl op_54
theorem dX8_even_68 : decode cX8_even 68 = .ok (.iload 7, 2) := dcA (j := 32) (f := Instr.iload) sX8_even_36 rfl op_21
theorem dX8_even_70 : decode cX8_even 70 = .ok (.iload_n 2, 1) := dc0 (j := 34) sX8_even_36 rfl op_28
theorem sX8_even_71 : sgm cX8_even 71 [162, 0, 77, 3, 54, 8, 21, 8, 42, 180, 0, 13, 3, 46, 162, 0, 57, 21, 6, 42, 180, 0, 13, 16, 84, 21, 8, 96, 46, 21, 5, 160, 0, 30, 42] := by decide +kernel
theorem dX8_even_71 : decode cX8_even 71 = .ok (.if_icmp .ge 77, 3) := dcTp (j := 0) (v := 77) (f := Instr.if_icmp .ge) sX8_even_71 rfl op_162 rfl rfl
theorem dX8_even_74 : decode cX8_even 74 = .ok (.iconst 0, 1) := dc0 (j := 3) sX8_even_71 rfl op_3
theorem dX8_even_75 : decode cX8_even 75 = .ok (.istore 8, 2) := dcA (j := 4) (f := Instr.istore) sX8_even_71 rfl op_54
theorem dX8_even_77 : decode cX8_even 77 = .ok (.iload 8, 2) := dcA (j := 6) (f := Instr.iload) sX8_even_71 rfl op_21
theorem dX8_even_79 : decode cX8_even 79 = .ok (.aload_n 0, 1) := dc0 (j := 8) sX8_even_71 rfl op_42
theorem dX8_even_80 : decode cX8_even 80 = .ok (.getfield 13, 3) := dcB (j := 9) (f := Instr.getfield) sX8_even_71 rfl op_180 rfl
theorem dX8_even_83 : decode cX8_even 83 = .ok (.iconst 0, 1) := dc0 (j := 12) sX8_even_71 rfl op_3
theorem dX8_even_84 : decode cX8_even 84 = .ok (.iaload, 1) := dc0 (j := 13) sX8_even_71 rfl op_46
theorem dX8_even_85 : decode cX8_even 85 = .ok (.if_icmp .ge 57, 3) := dcTp (j := 14) (v := 57) (f := Instr.if_icmp .ge) sX8_even_71 rfl op_162 rfl rfl
theorem dX8_even_88 : decode cX8_even 88 = .ok (.iload 6, 2) := dcA (j := 17) (f := Instr.iload) sX8_even_71 rfl op_21
theorem dX8_even_90 : decode cX8_even 90 = .ok (.aload_n 0, 1) := dc0 (j := 19) sX8_even_71 rfl op_42
theorem dX8_even_91 : decode cX8_even 91 = .ok (.getfield 13, 3) := dcB (j := 20) (f := Instr.getfield) sX8_even_71 rfl op_180 rfl
theorem dX8_even_94 : decode cX8_even 94 = .ok (.bipush 84, 2) := dcSp (j := 23) (a := 84) (f := Instr.bipush) sX8_even_71 rfl op_16 rfl
theorem dX8_even_96 : decode cX8_even 96 = .ok (.iload 8, 2) := dcA (j := 25) (f := Instr.iload) sX8_even_71 rfl op_21
theorem dX8_even_98 : decode cX8_even 98 = .ok (.iadd, 1) := dc0 (j := 27) sX8_even_71 rfl op_96
theorem dX8_even_99 : decode cX8_even 99 = .ok (.iaload, 1) := dc0 (j := 28) sX8_even_71 rfl op_46
theorem dX8_even_100 : decode cX8_even 100 = .ok (.iload 5, 2) := dcA (j := 29) (f := Instr.iload) sX8_even_71 rfl op_21
theorem dX8_even_102 : decode cX8_even 102 = .ok (.if_icmp .ne 30, 3) := dcTp (j := 31) (v := 30) (f := Instr.if_icmp .ne) sX8_even_71 rfl op_160 rfl rfl
theorem dX8_even_105 : decode cX8_even 105 = .ok (.aload_n 0, 1) := dc0 (j := 34) sX8_even_71 rfl op_42
theorem sX8_even_106 : sgm cX8_even 106 [180, 0, 36, 21, 8, 47, 21, 7, 184, 0, 163, 153, 0, 15, 42, 180, 0, 13, 7, 21, 8, 96, 46, 167, 0, 4, 3, 96, 54, 6, 132, 8, 1, 167, 255, 194] := by decide +kernel
theorem dX8_even_106 : decode cX8_even 106 = .ok (.getfield 36, 3) := dcB (j := 0) (f := Instr.getfield) sX8_even_106 rfl op_180 rfl
theorem dX8_even_109 : decode cX8_even 109 = .ok (.iload 8, 2) := dcA (j := 3) (f := Instr.iload) sX8_even_106 rfl op_21
theorem dX8_even_111 : decode cX8_even 111 = .ok (.laload, 1) := dc0 (j := 5) sX8_even_106 rfl op_47
theorem dX8_even_112 : decode cX8_even 112 = .ok (.iload 7, 2) := dcA (j := 6) (f := Instr.iload) sX8_even_106 rfl op_21
theorem dX8_even_114 : decode cX8_even 114 = .ok (.invokestatic 163, 3) := dcB (j := 8) (f := Instr.invokestatic) sX8_even_106 rfl op_184 rfl
theorem dX8_even_117 : decode cX8_even 117 = .ok (.ifCond .eq 15, 3) := dcTp (j := 11) (v := 15) (f := Instr.ifCond .eq) sX8_even_106 rfl op_153 rfl rfl
theorem dX8_even_120 : decode cX8_even 120 = .ok (.aload_n 0, 1) := dc0 (j := 14) sX8_even_106 rfl op_42
theorem dX8_even_121 : decode cX8_even 121 = .ok (.getfield 13, 3) := dcB (j := 15) (f := Instr.getfield) sX8_even_106 rfl op_180 rfl
theorem dX8_even_124 : decode cX8_even 124 = .ok (.iconst 4, 1) := dc0 (j := 18) sX8_even_106 rfl op_7
theorem dX8_even_125 : decode cX8_even 125 = .ok (.iload 8, 2) := dcA (j := 19) (f := Instr.iload) sX8_even_106 rfl op_21
theorem dX8_even_127 : decode cX8_even 127 = .ok (.iadd, 1) := dc0 (j := 21) sX8_even_106 rfl op_96
theorem dX8_even_128 : decode cX8_even 128 = .ok (.iaload, 1) := dc0 (j := 22) sX8_even_106 rfl op_46
theorem dX8_even_129 : decode cX8_even 129 = .ok (.goto 4, 3) := dcTp (j := 23) (v := 4) (f := Instr.goto) sX8_even_106 rfl op_167 rfl rfl
theorem dX8_even_132 : decode cX8_even 132 = .ok (.iconst 0, 1) := dc0 (j := 26) sX8_even_106 rfl op_3
theorem dX8_even_133 : decode cX8_even 133 = .ok (.iadd, 1) := dc0 (j := 27) sX8_even_106 rfl op_96
theorem dX8_even_134 : decode cX8_even 134 = .ok (.istore 6, 2) := dcA (j := 28) (f := Instr.istore) sX8_even_106 rfl op_54
theorem dX8_even_136 : decode cX8_even 136 = .ok (.iinc 8 1, 3) := dcIp (j := 30) sX8_even_106 rfl op_132 rfl
theorem dX8_even_139 : decode cX8_even 139 = .ok (.goto (-62), 3) := dcTn (j := 33) (v := 62) (f := Instr.goto) sX8_even_106 rfl op_167 rfl rfl rfl
theorem sX8_even_142 : sgm cX8_even 142 [132, 7, 1, 167, 255, 179, 21, 4, 21, 6, 154, 0, 10, 4, 21, 5, 120, 167, 0, 4, 3, 128, 54, 4, 132, 5, 1, 167, 255, 126, 21, 4, 172] := by decide +kernel
theorem dX8_even_142 : decode cX8_even 142 = .ok (.iinc 7 1, 3) := dcIp (j := 0) sX8_even_142 rfl op_132 rfl
theorem dX8_even_145 : decode cX8_even 145 = .ok (.goto (-77), 3) := dcTn (j := 3) (v := 77) (f := Instr.goto) sX8_even_142 rfl op_167 rfl rfl rfl
theorem dX8_even_148 : decode cX8_even 148 = .ok (.iload 4, 2) := dcA (j := 6) (f := Instr.iload) sX8_even_142 rfl op_21
theorem dX8_even_150 : decode cX8_even 150 = .ok (.iload 6, 2) := dcA (j := 8) (f := Instr.iload) sX8_even_142 rfl op_21
theorem dX8_even_152 : decode cX8_even 152 = .ok (.ifCond .ne 10, 3) := dcTp (j := 10) (v := 10) (f := Instr.ifCond .ne) sX8_even_142 rfl op_154 rfl rfl
theorem dX8_even_155 : decode cX8_even 155 = .ok (.iconst 1, 1) := dc0 (j := 13) sX8_even_142 rfl op_4
theorem dX8_even_156 : decode cX8_even 156 = .ok (.iload 5, 2) := dcA (j := 14) (f := Instr.iload) sX8_even_142 rfl op_21
theorem dX8_even_158 : decode cX8_even 158 = .ok (.ishl, 1) := dc0 (j := 16) sX8_even_142 rfl op_120
theorem dX8_even_159 : decode cX8_even 159 = .ok (.goto 4, 3) := dcTp (j := 17) (v := 4) (f := Instr.goto) sX8_even_142 rfl op_167 rfl rfl
theorem dX8_even_162 : decode cX8_even 162 = .ok (.iconst 0, 1) := dc0 (j := 20) sX8_even_142 rfl op_3
theorem dX8_even_163 : decode cX8_even 163 = .ok (.ior, 1) := dc0 (j := 21) sX8_even_142 rfl op_128
theorem dX8_even_164 : decode cX8_even 164 = .ok (.istore 4, 2) := dcA (j := 22) (f := Instr.istore) sX8_even_142 rfl op_54
theorem dX8_even_166 : decode cX8_even 166 = .ok (.iinc 5 1, 3) := dcIp (j := 24) sX8_even_142 rfl op_132 rfl
theorem dX8_even_169 : decode cX8_even 169 = .ok (.goto (-130), 3) := dcTn (j := 27) (v := 130) (f := Instr.goto) sX8_even_142 rfl op_167 rfl rfl rfl
theorem dX8_even_172 : decode cX8_even 172 = .ok (.iload 4, 2) := dcA (j := 30) (f := Instr.iload) sX8_even_142 rfl op_21
theorem dX8_even_174 : decode cX8_even 174 = .ok (.ireturn, 1) := dc0 (j := 32) sX8_even_142 rfl op_172
theorem sX8_waves_0 : sgm cX8_waves 0 [3, 62, 29, 42, 180, 0, 13, 3, 46, 162, 0, 22, 42, 180, 0, 36, 29, 10, 29, 28, 104, 27, 112, 121, 80, 132, 3, 1, 167, 255, 230, 42, 27, 182, 0, 241] := by decide +kernel
theorem dX8_waves_0 : decode cX8_waves 0 = .ok (.iconst 0, 1) := dc0 (j := 0) sX8_waves_0 rfl op_3
theorem dX8_waves_1 : decode cX8_waves 1 = .ok (.istore_n 3, 1) := dc0 (j := 1) sX8_waves_0 rfl op_62
theorem dX8_waves_2 : decode cX8_waves 2 = .ok (.iload_n 3, 1) := dc0 (j := 2) sX8_waves_0 rfl op_29
theorem dX8_waves_3 : decode cX8_waves 3 = .ok (.aload_n 0, 1) := dc0 (j := 3) sX8_waves_0 rfl op_42
theorem dX8_waves_4 : decode cX8_waves 4 = .ok (.getfield 13, 3) := dcB (j := 4) (f := Instr.getfield) sX8_waves_0 rfl op_180 rfl
theorem dX8_waves_7 : decode cX8_waves 7 = .ok (.iconst 0, 1) := dc0 (j := 7) sX8_waves_0 rfl op_3
theorem dX8_waves_8 : decode cX8_waves 8 = .ok (.iaload, 1) := dc0 (j := 8) sX8_waves_0 rfl op_46
theorem dX8_waves_9 : decode cX8_waves 9 = .ok (.if_icmp .ge 22, 3) := dcTp (j := 9) (v := 22) (f := Instr.if_icmp .ge) sX8_waves_0 rfl op_162 rfl rfl
theorem dX8_waves_12 : decode cX8_waves 12 = .ok (.aload_n 0, 1) := dc0 (j := 12) sX8_waves_0 rfl op_42
theorem dX8_waves_13 : decode cX8_waves 13 = .ok (.getfield 36, 3) := dcB (j := 13) (f := Instr.getfield) sX8_waves_0 rfl op_180 rfl
theorem dX8_waves_16 : decode cX8_waves 16 = .ok (.iload_n 3, 1) := dc0 (j := 16) sX8_waves_0 rfl op_29
theorem dX8_waves_17 : decode cX8_waves 17 = .ok (.lconst 1, 1) := dc0 (j := 17) sX8_waves_0 rfl op_10
theorem dX8_waves_18 : decode cX8_waves 18 = .ok (.iload_n 3, 1) := dc0 (j := 18) sX8_waves_0 rfl op_29
theorem dX8_waves_19 : decode cX8_waves 19 = .ok (.iload_n 2, 1) := dc0 (j := 19) sX8_waves_0 rfl op_28
theorem dX8_waves_20 : decode cX8_waves 20 = .ok (.imul, 1) := dc0 (j := 20) sX8_waves_0 rfl op_104
theorem dX8_waves_21 : decode cX8_waves 21 = .ok (.iload_n 1, 1) := dc0 (j := 21) sX8_waves_0 rfl op_27
theorem dX8_waves_22 : decode cX8_waves 22 = .ok (.irem, 1) := dc0 (j := 22) sX8_waves_0 rfl op_112
theorem dX8_waves_23 : decode cX8_waves 23 = .ok (.lshl, 1) := dc0 (j := 23) sX8_waves_0 rfl op_121
theorem dX8_waves_24 : decode cX8_waves 24 = .ok (.lastore, 1) := dc0 (j := 24) sX8_waves_0 rfl op_80
theorem dX8_waves_25 : decode cX8_waves 25 = .ok (.iinc 3 1, 3) := dcIp (j := 25) sX8_waves_0 rfl op_132 rfl
theorem dX8_waves_28 : decode cX8_waves 28 = .ok (.goto (-26), 3) := dcTn (j := 28) (v := 26) (f := Instr.goto) sX8_waves_0 rfl op_167 rfl rfl rfl
theorem dX8_waves_31 : decode cX8_waves 31 = .ok (.aload_n 0, 1) := dc0 (j := 31) sX8_waves_0 rfl op_42
theorem dX8_waves_32 : decode cX8_waves 32 = .ok (.iload_n 1, 1) := dc0 (j := 32) sX8_waves_0 rfl op_27
theorem dX8_waves_33 : decode cX8_waves 33 = .ok (.invokevirtual 241, 3) := dcB (j := 33) (f := Instr.invokevirtual) sX8_waves_0 rfl op_182 rfl
theorem sX8_waves_36 : sgm cX8_waves 36 [172] := by decide +kernel
theorem dX8_waves_36 : decode cX8_waves 36 = .ok (.ireturn, 1) := dc0 (j := 0) sX8_waves_36 rfl op_172
theorem sX8_wave_0 : sgm cX8_wave 0 [42, 3, 181, 0, 1, 27, 133, 10, 20, 0, 236, 184, 0, 124, 153, 0, 25, 28, 133, 9, 27, 4, 100, 133, 184, 0, 124, 153, 0, 12, 42, 27, 28, 182, 0, 244] := by decide +kernel
theorem dX8_wave_0 : decode cX8_wave 0 = .ok (.aload_n 0, 1) := dc0 (j := 0) sX8_wave_0 rfl op_42
theorem dX8_wave_1 : decode cX8_wave 1 = .ok (.iconst 0, 1) := dc0 (j := 1) sX8_wave_0 rfl op_3
theorem dX8_wave_2 : decode cX8_wave 2 = .ok (.putfield 1, 3) := dcB (j := 2) (f := Instr.putfield) sX8_wave_0 rfl op_181 rfl
theorem dX8_wave_5 : decode cX8_wave 5 = .ok (.iload_n 1, 1) := dc0 (j := 5) sX8_wave_0 rfl op_27
theorem dX8_wave_6 : decode cX8_wave 6 = .ok (.i2l, 1) := dc0 (j := 6) sX8_wave_0 rfl op_133
theorem dX8_wave_7 : decode cX8_wave 7 = .ok (.lconst 1, 1) := dc0 (j := 7) sX8_wave_0 rfl op_10
theorem dX8_wave_8 : decode cX8_wave 8 = .ok (.ldc2_w 236, 3) := dcB (j := 8) (f := Instr.ldc2_w) sX8_wave_0 rfl op_20 rfl
theorem dX8_wave_11 : decode cX8_wave 11 = .ok (.invokestatic 124, 3) := dcB (j := 11) (f := Instr.invokestatic) sX8_wave_0 rfl op_184 rfl
theorem dX8_wave_14 : decode cX8_wave 14 = .ok (.ifCond .eq 25, 3) := dcTp (j := 14) (v := 25) (f := Instr.ifCond .eq) sX8_wave_0 rfl op_153 rfl rfl
theorem dX8_wave_17 : decode cX8_wave 17 = .ok (.iload_n 2, 1) := dc0 (j := 17) sX8_wave_0 rfl op_28
theorem dX8_wave_18 : decode cX8_wave 18 = .ok (.i2l, 1) := dc0 (j := 18) sX8_wave_0 rfl op_133
theorem dX8_wave_19 : decode cX8_wave 19 = .ok (.lconst 0, 1) := dc0 (j := 19) sX8_wave_0 rfl op_9
theorem dX8_wave_20 : decode cX8_wave 20 = .ok (.iload_n 1, 1) := dc0 (j := 20) sX8_wave_0 rfl op_27
theorem dX8_wave_21 : decode cX8_wave 21 = .ok (.iconst 1, 1) := dc0 (j := 21) sX8_wave_0 rfl op_4
theorem dX8_wave_22 : decode cX8_wave 22 = .ok (.isub, 1) := dc0 (j := 22) sX8_wave_0 rfl op_100
theorem dX8_wave_23 : decode cX8_wave 23 = .ok (.i2l, 1) := dc0 (j := 23) sX8_wave_0 rfl op_133
theorem dX8_wave_24 : decode cX8_wave 24 = .ok (.invokestatic 124, 3) := dcB (j := 24) (f := Instr.invokestatic) sX8_wave_0 rfl op_184 rfl
theorem dX8_wave_27 : decode cX8_wave 27 = .ok (.ifCond .eq 12, 3) := dcTp (j := 27) (v := 12) (f := Instr.ifCond .eq) sX8_wave_0 rfl op_153 rfl rfl
theorem dX8_wave_30 : decode cX8_wave 30 = .ok (.aload_n 0, 1) := dc0 (j := 30) sX8_wave_0 rfl op_42
theorem dX8_wave_31 : decode cX8_wave 31 = .ok (.iload_n 1, 1) := dc0 (j := 31) sX8_wave_0 rfl op_27
theorem dX8_wave_32 : decode cX8_wave 32 = .ok (.iload_n 2, 1) := dc0 (j := 32) sX8_wave_0 rfl op_28
theorem dX8_wave_33 : decode cX8_wave 33 = .ok (.invokevirtual 244, 3) := dcB (j := 33) (f := Instr.invokevirtual) sX8_wave_0 rfl op_182 rfl
theorem sX8_wave_36 : sgm cX8_wave 36 [167, 0, 5, 16, 253, 172] := by decide +kernel
theorem dX8_wave_36 : decode cX8_wave 36 = .ok (.goto 5, 3) := dcTp (j := 0) (v := 5) (f := Instr.goto) sX8_wave_36 rfl op_167 rfl rfl
theorem dX8_wave_39 : decode cX8_wave 39 = .ok (.bipush (-3), 2) := dcSn (j := 3) (v := 3) (f := Instr.bipush) sX8_wave_36 rfl op_16 rfl rfl rfl
theorem dX8_wave_41 : decode cX8_wave 41 = .ok (.ireturn, 1) := dc0 (j := 5) sX8_wave_36 rfl op_172
theorem sX8_bestWave_0 : sgm cX8_bestWave 0 [42, 3, 181, 0, 1, 27, 133, 10, 20, 0, 236, 184, 0, 124, 154, 0, 6, 16, 253, 172, 3, 61, 3, 62, 3, 54, 4, 21, 4, 27, 162, 0, 42, 42, 27] := by decide +kernel
theorem dX8_bestWave_0 : decode cX8_bestWave 0 = .ok (.aload_n 0, 1) := dc0 (j := 0) sX8_bestWave_0 rfl op_42
theorem dX8_bestWave_1 : decode cX8_bestWave 1 = .ok (.iconst 0, 1) := dc0 (j := 1) sX8_bestWave_0 rfl op_3
theorem dX8_bestWave_2 : decode cX8_bestWave 2 = .ok (.putfield 1, 3) := dcB (j := 2) (f := Instr.putfield) sX8_bestWave_0 rfl op_181 rfl
theorem dX8_bestWave_5 : decode cX8_bestWave 5 = .ok (.iload_n 1, 1) := dc0 (j := 5) sX8_bestWave_0 rfl op_27
theorem dX8_bestWave_6 : decode cX8_bestWave 6 = .ok (.i2l, 1) := dc0 (j := 6) sX8_bestWave_0 rfl op_133
theorem dX8_bestWave_7 : decode cX8_bestWave 7 = .ok (.lconst 1, 1) := dc0 (j := 7) sX8_bestWave_0 rfl op_10
theorem dX8_bestWave_8 : decode cX8_bestWave 8 = .ok (.ldc2_w 236, 3) := dcB (j := 8) (f := Instr.ldc2_w) sX8_bestWave_0 rfl op_20 rfl
theorem dX8_bestWave_11 : decode cX8_bestWave 11 = .ok (.invokestatic 124, 3) := dcB (j := 11) (f := Instr.invokestatic) sX8_bestWave_0 rfl op_184 rfl
theorem dX8_bestWave_14 : decode cX8_bestWave 14 = .ok (.ifCond .ne 6, 3) := dcTp (j := 14) (v := 6) (f := Instr.ifCond .ne) sX8_bestWave_0 rfl op_154 rfl rfl
theorem dX8_bestWave_17 : decode cX8_bestWave 17 = .ok (.bipush (-3), 2) := dcSn (j := 17) (v := 3) (f := Instr.bipush) sX8_bestWave_0 rfl op_16 rfl rfl rfl
theorem dX8_bestWave_19 : decode cX8_bestWave 19 = .ok (.ireturn, 1) := dc0 (j := 19) sX8_bestWave_0 rfl op_172
theorem dX8_bestWave_20 : decode cX8_bestWave 20 = .ok (.iconst 0, 1) := dc0 (j := 20) sX8_bestWave_0 rfl op_3
theorem dX8_bestWave_21 : decode cX8_bestWave 21 = .ok (.istore_n 2, 1) := dc0 (j := 21) sX8_bestWave_0 rfl op_61
theorem dX8_bestWave_22 : decode cX8_bestWave 22 = .ok (.iconst 0, 1) := dc0 (j := 22) sX8_bestWave_0 rfl op_3
theorem dX8_bestWave_23 : decode cX8_bestWave 23 = .ok (.istore_n 3, 1) := dc0 (j := 23) sX8_bestWave_0 rfl op_62
theorem dX8_bestWave_24 : decode cX8_bestWave 24 = .ok (.iconst 0, 1) := dc0 (j := 24) sX8_bestWave_0 rfl op_3
theorem dX8_bestWave_25 : decode cX8_bestWave 25 = .ok (.istore 4, 2) := dcA (j := 25) (f := Instr.istore) sX8_bestWave_0 rfl op_54
theorem dX8_bestWave_27 : decode cX8_bestWave 27 = .ok (.iload 4, 2) := dcA (j := 27) (f := Instr.iload) sX8_bestWave_0 rfl op_21
theorem dX8_bestWave_29 : decode cX8_bestWave 29 = .ok (.iload_n 1, 1) := dc0 (j := 29) sX8_bestWave_0 rfl op_27
theorem dX8_bestWave_30 : decode cX8_bestWave 30 = .ok (.if_icmp .ge 42, 3) := dcTp (j := 30) (v := 42) (f := Instr.if_icmp .ge) sX8_bestWave_0 rfl op_162 rfl rfl
theorem dX8_bestWave_33 : decode cX8_bestWave 33 = .ok (.aload_n 0, 1) := dc0 (j := 33) sX8_bestWave_0 rfl op_42
theorem dX8_bestWave_34 : decode cX8_bestWave 34 = .ok (.iload_n 1, 1) := dc0 (j := 34) sX8_bestWave_0 rfl op_27
theorem sX8_bestWave_35 : sgm cX8_bestWave 35 [21, 4, 182, 0, 244, 54, 5, 21, 5, 2, 160, 0, 6, 21, 4, 172, 21, 5, 29, 163, 0, 6, 167, 0, 9, 21, 5, 62, 21, 4, 61, 132, 4, 1] := by decide +kernel
theorem dX8_bestWave_35 : decode cX8_bestWave 35 = .ok (.iload 4, 2) := dcA (j := 0) (f := Instr.iload) sX8_bestWave_35 rfl op_21
theorem dX8_bestWave_37 : decode cX8_bestWave 37 = .ok (.invokevirtual 244, 3) := dcB (j := 2) (f := Instr.invokevirtual) sX8_bestWave_35 rfl op_182 rfl
theorem dX8_bestWave_40 : decode cX8_bestWave 40 = .ok (.istore 5, 2) := dcA (j := 5) (f := Instr.istore) sX8_bestWave_35 rfl op_54
theorem dX8_bestWave_42 : decode cX8_bestWave 42 = .ok (.iload 5, 2) := dcA (j := 7) (f := Instr.iload) sX8_bestWave_35 rfl op_21
theorem dX8_bestWave_44 : decode cX8_bestWave 44 = .ok (.iconst (-1), 1) := dc0 (j := 9) sX8_bestWave_35 rfl op_2
theorem dX8_bestWave_45 : decode cX8_bestWave 45 = .ok (.if_icmp .ne 6, 3) := dcTp (j := 10) (v := 6) (f := Instr.if_icmp .ne) sX8_bestWave_35 rfl op_160 rfl rfl
theorem dX8_bestWave_48 : decode cX8_bestWave 48 = .ok (.iload 4, 2) := dcA (j := 13) (f := Instr.iload) sX8_bestWave_35 rfl op_21
theorem dX8_bestWave_50 : decode cX8_bestWave 50 = .ok (.ireturn, 1) := dc0 (j := 15) sX8_bestWave_35 rfl op_172
theorem dX8_bestWave_51 : decode cX8_bestWave 51 = .ok (.iload 5, 2) := dcA (j := 16) (f := Instr.iload) sX8_bestWave_35 rfl op_21
theorem dX8_bestWave_53 : decode cX8_bestWave 53 = .ok (.iload_n 3, 1) := dc0 (j := 18) sX8_bestWave_35 rfl op_29
theorem dX8_bestWave_54 : decode cX8_bestWave 54 = .ok (.if_icmp .gt 6, 3) := dcTp (j := 19) (v := 6) (f := Instr.if_icmp .gt) sX8_bestWave_35 rfl op_163 rfl rfl
theorem dX8_bestWave_57 : decode cX8_bestWave 57 = .ok (.goto 9, 3) := dcTp (j := 22) (v := 9) (f := Instr.goto) sX8_bestWave_35 rfl op_167 rfl rfl
theorem dX8_bestWave_60 : decode cX8_bestWave 60 = .ok (.iload 5, 2) := dcA (j := 25) (f := Instr.iload) sX8_bestWave_35 rfl op_21
theorem dX8_bestWave_62 : decode cX8_bestWave 62 = .ok (.istore_n 3, 1) := dc0 (j := 27) sX8_bestWave_35 rfl op_62
theorem dX8_bestWave_63 : decode cX8_bestWave 63 = .ok (.iload 4, 2) := dcA (j := 28) (f := Instr.iload) sX8_bestWave_35 rfl op_21
theorem dX8_bestWave_65 : decode cX8_bestWave 65 = .ok (.istore_n 2, 1) := dc0 (j := 30) sX8_bestWave_35 rfl op_61
theorem dX8_bestWave_66 : decode cX8_bestWave 66 = .ok (.iinc 4 1, 3) := dcIp (j := 31) sX8_bestWave_35 rfl op_132 rfl
theorem sX8_bestWave_69 : sgm cX8_bestWave 69 [167, 255, 214, 28, 172] := by decide +kernel
theorem dX8_bestWave_69 : decode cX8_bestWave 69 = .ok (.goto (-42), 3) := dcTn (j := 0) (v := 42) (f := Instr.goto) sX8_bestWave_69 rfl op_167 rfl rfl rfl
theorem dX8_bestWave_72 : decode cX8_bestWave 72 = .ok (.iload_n 2, 1) := dc0 (j := 3) sX8_bestWave_69 rfl op_28
theorem dX8_bestWave_73 : decode cX8_bestWave 73 = .ok (.ireturn, 1) := dc0 (j := 4) sX8_bestWave_69 rfl op_172
theorem sX8_bitsOf_0 : sgm cX8_bitsOf 0 [3, 61, 3, 62, 29, 16, 12, 162, 0, 25, 28, 30, 29, 184, 0, 163, 153, 0, 7, 4, 167, 0, 4, 3, 96, 61, 132, 3, 1, 167, 255, 231, 28, 172] := by decide +kernel
theorem dX8_bitsOf_0 : decode cX8_bitsOf 0 = .ok (.iconst 0, 1) := dc0 (j := 0) sX8_bitsOf_0 rfl op_3
theorem dX8_bitsOf_1 : decode cX8_bitsOf 1 = .ok (.istore_n 2, 1) := dc0 (j := 1) sX8_bitsOf_0 rfl op_61
theorem dX8_bitsOf_2 : decode cX8_bitsOf 2 = .ok (.iconst 0, 1) := dc0 (j := 2) sX8_bitsOf_0 rfl op_3
theorem dX8_bitsOf_3 : decode cX8_bitsOf 3 = .ok (.istore_n 3, 1) := dc0 (j := 3) sX8_bitsOf_0 rfl op_62
theorem dX8_bitsOf_4 : decode cX8_bitsOf 4 = .ok (.iload_n 3, 1) := dc0 (j := 4) sX8_bitsOf_0 rfl op_29
theorem dX8_bitsOf_5 : decode cX8_bitsOf 5 = .ok (.bipush 12, 2) := dcSp (j := 5) (a := 12) (f := Instr.bipush) sX8_bitsOf_0 rfl op_16 rfl
theorem dX8_bitsOf_7 : decode cX8_bitsOf 7 = .ok (.if_icmp .ge 25, 3) := dcTp (j := 7) (v := 25) (f := Instr.if_icmp .ge) sX8_bitsOf_0 rfl op_162 rfl rfl
theorem dX8_bitsOf_10 : decode cX8_bitsOf 10 = .ok (.iload_n 2, 1) := dc0 (j := 10) sX8_bitsOf_0 rfl op_28
theorem dX8_bitsOf_11 : decode cX8_bitsOf 11 = .ok (.lload_n 0, 1) := dc0 (j := 11) sX8_bitsOf_0 rfl op_30
theorem dX8_bitsOf_12 : decode cX8_bitsOf 12 = .ok (.iload_n 3, 1) := dc0 (j := 12) sX8_bitsOf_0 rfl op_29
theorem dX8_bitsOf_13 : decode cX8_bitsOf 13 = .ok (.invokestatic 163, 3) := dcB (j := 13) (f := Instr.invokestatic) sX8_bitsOf_0 rfl op_184 rfl
theorem dX8_bitsOf_16 : decode cX8_bitsOf 16 = .ok (.ifCond .eq 7, 3) := dcTp (j := 16) (v := 7) (f := Instr.ifCond .eq) sX8_bitsOf_0 rfl op_153 rfl rfl
theorem dX8_bitsOf_19 : decode cX8_bitsOf 19 = .ok (.iconst 1, 1) := dc0 (j := 19) sX8_bitsOf_0 rfl op_4
theorem dX8_bitsOf_20 : decode cX8_bitsOf 20 = .ok (.goto 4, 3) := dcTp (j := 20) (v := 4) (f := Instr.goto) sX8_bitsOf_0 rfl op_167 rfl rfl
theorem dX8_bitsOf_23 : decode cX8_bitsOf 23 = .ok (.iconst 0, 1) := dc0 (j := 23) sX8_bitsOf_0 rfl op_3
theorem dX8_bitsOf_24 : decode cX8_bitsOf 24 = .ok (.iadd, 1) := dc0 (j := 24) sX8_bitsOf_0 rfl op_96
theorem dX8_bitsOf_25 : decode cX8_bitsOf 25 = .ok (.istore_n 2, 1) := dc0 (j := 25) sX8_bitsOf_0 rfl op_61
theorem dX8_bitsOf_26 : decode cX8_bitsOf 26 = .ok (.iinc 3 1, 3) := dcIp (j := 26) sX8_bitsOf_0 rfl op_132 rfl
theorem dX8_bitsOf_29 : decode cX8_bitsOf 29 = .ok (.goto (-25), 3) := dcTn (j := 29) (v := 25) (f := Instr.goto) sX8_bitsOf_0 rfl op_167 rfl rfl rfl
theorem dX8_bitsOf_32 : decode cX8_bitsOf 32 = .ok (.iload_n 2, 1) := dc0 (j := 32) sX8_bitsOf_0 rfl op_28
theorem dX8_bitsOf_33 : decode cX8_bitsOf 33 = .ok (.ireturn, 1) := dc0 (j := 33) sX8_bitsOf_0 rfl op_172
theorem sX8_bestRound_0 : sgm cX8_bestRound 0 [42, 3, 181, 0, 1, 28, 153, 0, 27, 28, 133, 20, 0, 247, 16, 9, 42, 180, 0, 13, 3, 46, 96, 133, 184, 0, 124, 154, 0, 6, 16, 254, 172, 27, 133, 10] := by decide +kernel
theorem dX8_bestRound_0 : decode cX8_bestRound 0 = .ok (.aload_n 0, 1) := dc0 (j := 0) sX8_bestRound_0 rfl op_42
theorem dX8_bestRound_1 : decode cX8_bestRound 1 = .ok (.iconst 0, 1) := dc0 (j := 1) sX8_bestRound_0 rfl op_3
theorem dX8_bestRound_2 : decode cX8_bestRound 2 = .ok (.putfield 1, 3) := dcB (j := 2) (f := Instr.putfield) sX8_bestRound_0 rfl op_181 rfl
theorem dX8_bestRound_5 : decode cX8_bestRound 5 = .ok (.iload_n 2, 1) := dc0 (j := 5) sX8_bestRound_0 rfl op_28
theorem dX8_bestRound_6 : decode cX8_bestRound 6 = .ok (.ifCond .eq 27, 3) := dcTp (j := 6) (v := 27) (f := Instr.ifCond .eq) sX8_bestRound_0 rfl op_153 rfl rfl
theorem dX8_bestRound_9 : decode cX8_bestRound 9 = .ok (.iload_n 2, 1) := dc0 (j := 9) sX8_bestRound_0 rfl op_28
theorem dX8_bestRound_10 : decode cX8_bestRound 10 = .ok (.i2l, 1) := dc0 (j := 10) sX8_bestRound_0 rfl op_133
theorem dX8_bestRound_11 : decode cX8_bestRound 11 = .ok (.ldc2_w 247, 3) := dcB (j := 11) (f := Instr.ldc2_w) sX8_bestRound_0 rfl op_20 rfl
theorem dX8_bestRound_14 : decode cX8_bestRound 14 = .ok (.bipush 9, 2) := dcSp (j := 14) (a := 9) (f := Instr.bipush) sX8_bestRound_0 rfl op_16 rfl
theorem dX8_bestRound_16 : decode cX8_bestRound 16 = .ok (.aload_n 0, 1) := dc0 (j := 16) sX8_bestRound_0 rfl op_42
theorem dX8_bestRound_17 : decode cX8_bestRound 17 = .ok (.getfield 13, 3) := dcB (j := 17) (f := Instr.getfield) sX8_bestRound_0 rfl op_180 rfl
theorem dX8_bestRound_20 : decode cX8_bestRound 20 = .ok (.iconst 0, 1) := dc0 (j := 20) sX8_bestRound_0 rfl op_3
theorem dX8_bestRound_21 : decode cX8_bestRound 21 = .ok (.iaload, 1) := dc0 (j := 21) sX8_bestRound_0 rfl op_46
theorem dX8_bestRound_22 : decode cX8_bestRound 22 = .ok (.iadd, 1) := dc0 (j := 22) sX8_bestRound_0 rfl op_96
theorem dX8_bestRound_23 : decode cX8_bestRound 23 = .ok (.i2l, 1) := dc0 (j := 23) sX8_bestRound_0 rfl op_133
theorem dX8_bestRound_24 : decode cX8_bestRound 24 = .ok (.invokestatic 124, 3) := dcB (j := 24) (f := Instr.invokestatic) sX8_bestRound_0 rfl op_184 rfl
theorem dX8_bestRound_27 : decode cX8_bestRound 27 = .ok (.ifCond .ne 6, 3) := dcTp (j := 27) (v := 6) (f := Instr.ifCond .ne) sX8_bestRound_0 rfl op_154 rfl rfl
theorem dX8_bestRound_30 : decode cX8_bestRound 30 = .ok (.bipush (-2), 2) := dcSn (j := 30) (v := 2) (f := Instr.bipush) sX8_bestRound_0 rfl op_16 rfl rfl rfl
theorem dX8_bestRound_32 : decode cX8_bestRound 32 = .ok (.ireturn, 1) := dc0 (j := 32) sX8_bestRound_0 rfl op_172
theorem dX8_bestRound_33 : decode cX8_bestRound 33 = .ok (.iload_n 1, 1) := dc0 (j := 33) sX8_bestRound_0 rfl op_27
theorem dX8_bestRound_34 : decode cX8_bestRound 34 = .ok (.i2l, 1) := dc0 (j := 34) sX8_bestRound_0 rfl op_133
theorem dX8_bestRound_35 : decode cX8_bestRound 35 = .ok (.lconst 1, 1) := dc0 (j := 35) sX8_bestRound_0 rfl op_10
theorem sX8_bestRound_36 : sgm cX8_bestRound 36 [20, 0, 247, 184, 0, 124, 154, 0, 6, 16, 253, 172, 42, 180, 0, 13, 3, 46, 27, 104, 16, 10, 164, 0, 6, 16, 252, 172, 2, 62, 3, 54, 4, 21, 4, 4] := by decide +kernel
theorem dX8_bestRound_36 : decode cX8_bestRound 36 = .ok (.ldc2_w 247, 3) := dcB (j := 0) (f := Instr.ldc2_w) sX8_bestRound_36 rfl op_20 rfl
theorem dX8_bestRound_39 : decode cX8_bestRound 39 = .ok (.invokestatic 124, 3) := dcB (j := 3) (f := Instr.invokestatic) sX8_bestRound_36 rfl op_184 rfl
theorem dX8_bestRound_42 : decode cX8_bestRound 42 = .ok (.ifCond .ne 6, 3) := dcTp (j := 6) (v := 6) (f := Instr.ifCond .ne) sX8_bestRound_36 rfl op_154 rfl rfl
theorem dX8_bestRound_45 : decode cX8_bestRound 45 = .ok (.bipush (-3), 2) := dcSn (j := 9) (v := 3) (f := Instr.bipush) sX8_bestRound_36 rfl op_16 rfl rfl rfl
theorem dX8_bestRound_47 : decode cX8_bestRound 47 = .ok (.ireturn, 1) := dc0 (j := 11) sX8_bestRound_36 rfl op_172
theorem dX8_bestRound_48 : decode cX8_bestRound 48 = .ok (.aload_n 0, 1) := dc0 (j := 12) sX8_bestRound_36 rfl op_42
theorem dX8_bestRound_49 : decode cX8_bestRound 49 = .ok (.getfield 13, 3) := dcB (j := 13) (f := Instr.getfield) sX8_bestRound_36 rfl op_180 rfl
theorem dX8_bestRound_52 : decode cX8_bestRound 52 = .ok (.iconst 0, 1) := dc0 (j := 16) sX8_bestRound_36 rfl op_3
theorem dX8_bestRound_53 : decode cX8_bestRound 53 = .ok (.iaload, 1) := dc0 (j := 17) sX8_bestRound_36 rfl op_46
theorem dX8_bestRound_54 : decode cX8_bestRound 54 = .ok (.iload_n 1, 1) := dc0 (j := 18) sX8_bestRound_36 rfl op_27
theorem dX8_bestRound_55 : decode cX8_bestRound 55 = .ok (.imul, 1) := dc0 (j := 19) sX8_bestRound_36 rfl op_104
theorem dX8_bestRound_56 : decode cX8_bestRound 56 = .ok (.bipush 10, 2) := dcSp (j := 20) (a := 10) (f := Instr.bipush) sX8_bestRound_36 rfl op_16 rfl
theorem dX8_bestRound_58 : decode cX8_bestRound 58 = .ok (.if_icmp .le 6, 3) := dcTp (j := 22) (v := 6) (f := Instr.if_icmp .le) sX8_bestRound_36 rfl op_164 rfl rfl
theorem dX8_bestRound_61 : decode cX8_bestRound 61 = .ok (.bipush (-4), 2) := dcSn (j := 25) (v := 4) (f := Instr.bipush) sX8_bestRound_36 rfl op_16 rfl rfl rfl
theorem dX8_bestRound_63 : decode cX8_bestRound 63 = .ok (.ireturn, 1) := dc0 (j := 27) sX8_bestRound_36 rfl op_172
theorem dX8_bestRound_64 : decode cX8_bestRound 64 = .ok (.iconst (-1), 1) := dc0 (j := 28) sX8_bestRound_36 rfl op_2
theorem dX8_bestRound_65 : decode cX8_bestRound 65 = .ok (.istore_n 3, 1) := dc0 (j := 29) sX8_bestRound_36 rfl op_62
theorem dX8_bestRound_66 : decode cX8_bestRound 66 = .ok (.iconst 0, 1) := dc0 (j := 30) sX8_bestRound_36 rfl op_3
theorem dX8_bestRound_67 : decode cX8_bestRound 67 = .ok (.istore 4, 2) := dcA (j := 31) (f := Instr.istore) sX8_bestRound_36 rfl op_54
theorem dX8_bestRound_69 : decode cX8_bestRound 69 = .ok (.iload 4, 2) := dcA (j := 33) (f := Instr.iload) sX8_bestRound_36 rfl op_21
theorem dX8_bestRound_71 : decode cX8_bestRound 71 = .ok (.iconst 1, 1) := dc0 (j := 35) sX8_bestRound_36 rfl op_4
theorem sX8_bestRound_72 : sgm cX8_bestRound 72 [42, 180, 0, 13, 3, 46, 27, 104, 120, 162, 0, 130, 21, 4, 133, 184, 0, 249, 54, 5, 29, 2, 159, 0, 12, 21, 5, 29, 161, 0, 6, 167, 0, 102, 3] := by decide +kernel
theorem dX8_bestRound_72 : decode cX8_bestRound 72 = .ok (.aload_n 0, 1) := dc0 (j := 0) sX8_bestRound_72 rfl op_42
theorem dX8_bestRound_73 : decode cX8_bestRound 73 = .ok (.getfield 13, 3) := dcB (j := 1) (f := Instr.getfield) sX8_bestRound_72 rfl op_180 rfl
theorem dX8_bestRound_76 : decode cX8_bestRound 76 = .ok (.iconst 0, 1) := dc0 (j := 4) sX8_bestRound_72 rfl op_3
theorem dX8_bestRound_77 : decode cX8_bestRound 77 = .ok (.iaload, 1) := dc0 (j := 5) sX8_bestRound_72 rfl op_46
theorem dX8_bestRound_78 : decode cX8_bestRound 78 = .ok (.iload_n 1, 1) := dc0 (j := 6) sX8_bestRound_72 rfl op_27
theorem dX8_bestRound_79 : decode cX8_bestRound 79 = .ok (.imul, 1) := dc0 (j := 7) sX8_bestRound_72 rfl op_104
theorem dX8_bestRound_80 : decode cX8_bestRound 80 = .ok (.ishl, 1) := dc0 (j := 8) sX8_bestRound_72 rfl op_120
theorem dX8_bestRound_81 : decode cX8_bestRound 81 = .ok (.if_icmp .ge 130, 3) := dcTp (j := 9) (v := 130) (f := Instr.if_icmp .ge) sX8_bestRound_72 rfl op_162 rfl rfl
theorem dX8_bestRound_84 : decode cX8_bestRound 84 = .ok (.iload 4, 2) := dcA (j := 12) (f := Instr.iload) sX8_bestRound_72 rfl op_21
theorem dX8_bestRound_86 : decode cX8_bestRound 86 = .ok (.i2l, 1) := dc0 (j := 14) sX8_bestRound_72 rfl op_133
theorem dX8_bestRound_87 : decode cX8_bestRound 87 = .ok (.invokestatic 249, 3) := dcB (j := 15) (f := Instr.invokestatic) sX8_bestRound_72 rfl op_184 rfl
theorem dX8_bestRound_90 : decode cX8_bestRound 90 = .ok (.istore 5, 2) := dcA (j := 18) (f := Instr.istore) sX8_bestRound_72 rfl op_54
theorem dX8_bestRound_92 : decode cX8_bestRound 92 = .ok (.iload_n 3, 1) := dc0 (j := 20) sX8_bestRound_72 rfl op_29
theorem dX8_bestRound_93 : decode cX8_bestRound 93 = .ok (.iconst (-1), 1) := dc0 (j := 21) sX8_bestRound_72 rfl op_2
theorem dX8_bestRound_94 : decode cX8_bestRound 94 = .ok (.if_icmp .eq 12, 3) := dcTp (j := 22) (v := 12) (f := Instr.if_icmp .eq) sX8_bestRound_72 rfl op_159 rfl rfl
theorem dX8_bestRound_97 : decode cX8_bestRound 97 = .ok (.iload 5, 2) := dcA (j := 25) (f := Instr.iload) sX8_bestRound_72 rfl op_21
theorem dX8_bestRound_99 : decode cX8_bestRound 99 = .ok (.iload_n 3, 1) := dc0 (j := 27) sX8_bestRound_72 rfl op_29
theorem dX8_bestRound_100 : decode cX8_bestRound 100 = .ok (.if_icmp .lt 6, 3) := dcTp (j := 28) (v := 6) (f := Instr.if_icmp .lt) sX8_bestRound_72 rfl op_161 rfl rfl
theorem dX8_bestRound_103 : decode cX8_bestRound 103 = .ok (.goto 102, 3) := dcTp (j := 31) (v := 102) (f := Instr.goto) sX8_bestRound_72 rfl op_167 rfl rfl
theorem dX8_bestRound_106 : decode cX8_bestRound 106 = .ok (.iconst 0, 1) := dc0 (j := 34) sX8_bestRound_72 rfl op_3
theorem sX8_bestRound_107 : sgm cX8_bestRound 107 [54, 6, 21, 6, 42, 180, 0, 13, 3, 46, 162, 0, 39, 42, 180, 0, 36, 21, 6, 21, 4, 42, 180, 0, 13, 3, 46, 4, 100, 21, 6, 100, 27, 104, 122, 4] := by decide +kernel
theorem dX8_bestRound_107 : decode cX8_bestRound 107 = .ok (.istore 6, 2) := dcA (j := 0) (f := Instr.istore) sX8_bestRound_107 rfl op_54
theorem dX8_bestRound_109 : decode cX8_bestRound 109 = .ok (.iload 6, 2) := dcA (j := 2) (f := Instr.iload) sX8_bestRound_107 rfl op_21
theorem dX8_bestRound_111 : decode cX8_bestRound 111 = .ok (.aload_n 0, 1) := dc0 (j := 4) sX8_bestRound_107 rfl op_42
theorem dX8_bestRound_112 : decode cX8_bestRound 112 = .ok (.getfield 13, 3) := dcB (j := 5) (f := Instr.getfield) sX8_bestRound_107 rfl op_180 rfl
theorem dX8_bestRound_115 : decode cX8_bestRound 115 = .ok (.iconst 0, 1) := dc0 (j := 8) sX8_bestRound_107 rfl op_3
theorem dX8_bestRound_116 : decode cX8_bestRound 116 = .ok (.iaload, 1) := dc0 (j := 9) sX8_bestRound_107 rfl op_46
theorem dX8_bestRound_117 : decode cX8_bestRound 117 = .ok (.if_icmp .ge 39, 3) := dcTp (j := 10) (v := 39) (f := Instr.if_icmp .ge) sX8_bestRound_107 rfl op_162 rfl rfl
theorem dX8_bestRound_120 : decode cX8_bestRound 120 = .ok (.aload_n 0, 1) := dc0 (j := 13) sX8_bestRound_107 rfl op_42
theorem dX8_bestRound_121 : decode cX8_bestRound 121 = .ok (.getfield 36, 3) := dcB (j := 14) (f := Instr.getfield) sX8_bestRound_107 rfl op_180 rfl
theorem dX8_bestRound_124 : decode cX8_bestRound 124 = .ok (.iload 6, 2) := dcA (j := 17) (f := Instr.iload) sX8_bestRound_107 rfl op_21
theorem dX8_bestRound_126 : decode cX8_bestRound 126 = .ok (.iload 4, 2) := dcA (j := 19) (f := Instr.iload) sX8_bestRound_107 rfl op_21
theorem dX8_bestRound_128 : decode cX8_bestRound 128 = .ok (.aload_n 0, 1) := dc0 (j := 21) sX8_bestRound_107 rfl op_42
theorem dX8_bestRound_129 : decode cX8_bestRound 129 = .ok (.getfield 13, 3) := dcB (j := 22) (f := Instr.getfield) sX8_bestRound_107 rfl op_180 rfl
theorem dX8_bestRound_132 : decode cX8_bestRound 132 = .ok (.iconst 0, 1) := dc0 (j := 25) sX8_bestRound_107 rfl op_3
theorem dX8_bestRound_133 : decode cX8_bestRound 133 = .ok (.iaload, 1) := dc0 (j := 26) sX8_bestRound_107 rfl op_46
theorem dX8_bestRound_134 : decode cX8_bestRound 134 = .ok (.iconst 1, 1) := dc0 (j := 27) sX8_bestRound_107 rfl op_4
theorem dX8_bestRound_135 : decode cX8_bestRound 135 = .ok (.isub, 1) := dc0 (j := 28) sX8_bestRound_107 rfl op_100
theorem dX8_bestRound_136 : decode cX8_bestRound 136 = .ok (.iload 6, 2) := dcA (j := 29) (f := Instr.iload) sX8_bestRound_107 rfl op_21
theorem dX8_bestRound_138 : decode cX8_bestRound 138 = .ok (.isub, 1) := dc0 (j := 31) sX8_bestRound_107 rfl op_100
theorem dX8_bestRound_139 : decode cX8_bestRound 139 = .ok (.iload_n 1, 1) := dc0 (j := 32) sX8_bestRound_107 rfl op_27
theorem dX8_bestRound_140 : decode cX8_bestRound 140 = .ok (.imul, 1) := dc0 (j := 33) sX8_bestRound_107 rfl op_104
theorem dX8_bestRound_141 : decode cX8_bestRound 141 = .ok (.ishr, 1) := dc0 (j := 34) sX8_bestRound_107 rfl op_122
theorem dX8_bestRound_142 : decode cX8_bestRound 142 = .ok (.iconst 1, 1) := dc0 (j := 35) sX8_bestRound_107 rfl op_4
theorem sX8_bestRound_143 : sgm cX8_bestRound 143 [27, 120, 4, 100, 126, 133, 80, 132, 6, 1, 167, 255, 212, 42, 27, 182, 0, 241, 2, 159, 0, 6, 167, 0, 40, 21, 5, 62, 3, 54, 6, 21, 6, 42] := by decide +kernel
theorem dX8_bestRound_143 : decode cX8_bestRound 143 = .ok (.iload_n 1, 1) := dc0 (j := 0) sX8_bestRound_143 rfl op_27
theorem dX8_bestRound_144 : decode cX8_bestRound 144 = .ok (.ishl, 1) := dc0 (j := 1) sX8_bestRound_143 rfl op_120
theorem dX8_bestRound_145 : decode cX8_bestRound 145 = .ok (.iconst 1, 1) := dc0 (j := 2) sX8_bestRound_143 rfl op_4
theorem dX8_bestRound_146 : decode cX8_bestRound 146 = .ok (.isub, 1) := dc0 (j := 3) sX8_bestRound_143 rfl op_100
theorem dX8_bestRound_147 : decode cX8_bestRound 147 = .ok (.iand, 1) := dc0 (j := 4) sX8_bestRound_143 rfl op_126
theorem dX8_bestRound_148 : decode cX8_bestRound 148 = .ok (.i2l, 1) := dc0 (j := 5) sX8_bestRound_143 rfl op_133
theorem dX8_bestRound_149 : decode cX8_bestRound 149 = .ok (.lastore, 1) := dc0 (j := 6) sX8_bestRound_143 rfl op_80
theorem dX8_bestRound_150 : decode cX8_bestRound 150 = .ok (.iinc 6 1, 3) := dcIp (j := 7) sX8_bestRound_143 rfl op_132 rfl
theorem dX8_bestRound_153 : decode cX8_bestRound 153 = .ok (.goto (-44), 3) := dcTn (j := 10) (v := 44) (f := Instr.goto) sX8_bestRound_143 rfl op_167 rfl rfl rfl
theorem dX8_bestRound_156 : decode cX8_bestRound 156 = .ok (.aload_n 0, 1) := dc0 (j := 13) sX8_bestRound_143 rfl op_42
theorem dX8_bestRound_157 : decode cX8_bestRound 157 = .ok (.iload_n 1, 1) := dc0 (j := 14) sX8_bestRound_143 rfl op_27
theorem dX8_bestRound_158 : decode cX8_bestRound 158 = .ok (.invokevirtual 241, 3) := dcB (j := 15) (f := Instr.invokevirtual) sX8_bestRound_143 rfl op_182 rfl
theorem dX8_bestRound_161 : decode cX8_bestRound 161 = .ok (.iconst (-1), 1) := dc0 (j := 18) sX8_bestRound_143 rfl op_2
theorem dX8_bestRound_162 : decode cX8_bestRound 162 = .ok (.if_icmp .eq 6, 3) := dcTp (j := 19) (v := 6) (f := Instr.if_icmp .eq) sX8_bestRound_143 rfl op_159 rfl rfl
theorem dX8_bestRound_165 : decode cX8_bestRound 165 = .ok (.goto 40, 3) := dcTp (j := 22) (v := 40) (f := Instr.goto) sX8_bestRound_143 rfl op_167 rfl rfl
theorem dX8_bestRound_168 : decode cX8_bestRound 168 = .ok (.iload 5, 2) := dcA (j := 25) (f := Instr.iload) sX8_bestRound_143 rfl op_21
theorem dX8_bestRound_170 : decode cX8_bestRound 170 = .ok (.istore_n 3, 1) := dc0 (j := 27) sX8_bestRound_143 rfl op_62
theorem dX8_bestRound_171 : decode cX8_bestRound 171 = .ok (.iconst 0, 1) := dc0 (j := 28) sX8_bestRound_143 rfl op_3
theorem dX8_bestRound_172 : decode cX8_bestRound 172 = .ok (.istore 6, 2) := dcA (j := 29) (f := Instr.istore) sX8_bestRound_143 rfl op_54
theorem dX8_bestRound_174 : decode cX8_bestRound 174 = .ok (.iload 6, 2) := dcA (j := 31) (f := Instr.iload) sX8_bestRound_143 rfl op_21
theorem dX8_bestRound_176 : decode cX8_bestRound 176 = .ok (.aload_n 0, 1) := dc0 (j := 33) sX8_bestRound_143 rfl op_42
theorem sX8_bestRound_177 : sgm cX8_bestRound 177 [180, 0, 13, 3, 46, 162, 0, 23, 42, 180, 0, 40, 21, 6, 42, 180, 0, 36, 21, 6, 47, 80, 132, 6, 1, 167, 255, 228, 132, 4, 1, 167, 255, 117, 29, 2] := by decide +kernel
theorem dX8_bestRound_177 : decode cX8_bestRound 177 = .ok (.getfield 13, 3) := dcB (j := 0) (f := Instr.getfield) sX8_bestRound_177 rfl op_180 rfl
theorem dX8_bestRound_180 : decode cX8_bestRound 180 = .ok (.iconst 0, 1) := dc0 (j := 3) sX8_bestRound_177 rfl op_3
theorem dX8_bestRound_181 : decode cX8_bestRound 181 = .ok (.iaload, 1) := dc0 (j := 4) sX8_bestRound_177 rfl op_46
theorem dX8_bestRound_182 : decode cX8_bestRound 182 = .ok (.if_icmp .ge 23, 3) := dcTp (j := 5) (v := 23) (f := Instr.if_icmp .ge) sX8_bestRound_177 rfl op_162 rfl rfl
theorem dX8_bestRound_185 : decode cX8_bestRound 185 = .ok (.aload_n 0, 1) := dc0 (j := 8) sX8_bestRound_177 rfl op_42
theorem dX8_bestRound_186 : decode cX8_bestRound 186 = .ok (.getfield 40, 3) := dcB (j := 9) (f := Instr.getfield) sX8_bestRound_177 rfl op_180 rfl
theorem dX8_bestRound_189 : decode cX8_bestRound 189 = .ok (.iload 6, 2) := dcA (j := 12) (f := Instr.iload) sX8_bestRound_177 rfl op_21
theorem dX8_bestRound_191 : decode cX8_bestRound 191 = .ok (.aload_n 0, 1) := dc0 (j := 14) sX8_bestRound_177 rfl op_42
theorem dX8_bestRound_192 : decode cX8_bestRound 192 = .ok (.getfield 36, 3) := dcB (j := 15) (f := Instr.getfield) sX8_bestRound_177 rfl op_180 rfl
theorem dX8_bestRound_195 : decode cX8_bestRound 195 = .ok (.iload 6, 2) := dcA (j := 18) (f := Instr.iload) sX8_bestRound_177 rfl op_21
theorem dX8_bestRound_197 : decode cX8_bestRound 197 = .ok (.laload, 1) := dc0 (j := 20) sX8_bestRound_177 rfl op_47
theorem dX8_bestRound_198 : decode cX8_bestRound 198 = .ok (.lastore, 1) := dc0 (j := 21) sX8_bestRound_177 rfl op_80
theorem dX8_bestRound_199 : decode cX8_bestRound 199 = .ok (.iinc 6 1, 3) := dcIp (j := 22) sX8_bestRound_177 rfl op_132 rfl
theorem dX8_bestRound_202 : decode cX8_bestRound 202 = .ok (.goto (-28), 3) := dcTn (j := 25) (v := 28) (f := Instr.goto) sX8_bestRound_177 rfl op_167 rfl rfl rfl
theorem dX8_bestRound_205 : decode cX8_bestRound 205 = .ok (.iinc 4 1, 3) := dcIp (j := 28) sX8_bestRound_177 rfl op_132 rfl
theorem dX8_bestRound_208 : decode cX8_bestRound 208 = .ok (.goto (-139), 3) := dcTn (j := 31) (v := 139) (f := Instr.goto) sX8_bestRound_177 rfl op_167 rfl rfl rfl
theorem dX8_bestRound_211 : decode cX8_bestRound 211 = .ok (.iload_n 3, 1) := dc0 (j := 34) sX8_bestRound_177 rfl op_29
theorem dX8_bestRound_212 : decode cX8_bestRound 212 = .ok (.iconst (-1), 1) := dc0 (j := 35) sX8_bestRound_177 rfl op_2
theorem sX8_bestRound_213 : sgm cX8_bestRound 213 [159, 0, 7, 28, 154, 0, 7, 29, 167, 0, 13, 42, 180, 0, 40, 28, 16, 10, 100, 47, 136, 172] := by decide +kernel
theorem dX8_bestRound_213 : decode cX8_bestRound 213 = .ok (.if_icmp .eq 7, 3) := dcTp (j := 0) (v := 7) (f := Instr.if_icmp .eq) sX8_bestRound_213 rfl op_159 rfl rfl
theorem dX8_bestRound_216 : decode cX8_bestRound 216 = .ok (.iload_n 2, 1) := dc0 (j := 3) sX8_bestRound_213 rfl op_28
theorem dX8_bestRound_217 : decode cX8_bestRound 217 = .ok (.ifCond .ne 7, 3) := dcTp (j := 4) (v := 7) (f := Instr.ifCond .ne) sX8_bestRound_213 rfl op_154 rfl rfl
theorem dX8_bestRound_220 : decode cX8_bestRound 220 = .ok (.iload_n 3, 1) := dc0 (j := 7) sX8_bestRound_213 rfl op_29
theorem dX8_bestRound_221 : decode cX8_bestRound 221 = .ok (.goto 13, 3) := dcTp (j := 8) (v := 13) (f := Instr.goto) sX8_bestRound_213 rfl op_167 rfl rfl
theorem dX8_bestRound_224 : decode cX8_bestRound 224 = .ok (.aload_n 0, 1) := dc0 (j := 11) sX8_bestRound_213 rfl op_42
theorem dX8_bestRound_225 : decode cX8_bestRound 225 = .ok (.getfield 40, 3) := dcB (j := 12) (f := Instr.getfield) sX8_bestRound_213 rfl op_180 rfl
theorem dX8_bestRound_228 : decode cX8_bestRound 228 = .ok (.iload_n 2, 1) := dc0 (j := 15) sX8_bestRound_213 rfl op_28
theorem dX8_bestRound_229 : decode cX8_bestRound 229 = .ok (.bipush 10, 2) := dcSp (j := 16) (a := 10) (f := Instr.bipush) sX8_bestRound_213 rfl op_16 rfl
theorem dX8_bestRound_231 : decode cX8_bestRound 231 = .ok (.isub, 1) := dc0 (j := 18) sX8_bestRound_213 rfl op_100
theorem dX8_bestRound_232 : decode cX8_bestRound 232 = .ok (.laload, 1) := dc0 (j := 19) sX8_bestRound_213 rfl op_47
theorem dX8_bestRound_233 : decode cX8_bestRound 233 = .ok (.l2i, 1) := dc0 (j := 20) sX8_bestRound_213 rfl op_136
theorem dX8_bestRound_234 : decode cX8_bestRound 234 = .ok (.ireturn, 1) := dc0 (j := 21) sX8_bestRound_213 rfl op_172
theorem sX8_payOf_0 : sgm cX8_payOf 0 [42, 27, 28, 3, 182, 0, 170, 62, 29, 42, 180, 0, 13, 16, 34, 27, 96, 46, 161, 0, 20, 29, 42, 180, 0, 13, 16, 44, 27, 96, 46, 163, 0, 7, 5] := by decide +kernel
theorem dX8_payOf_0 : decode cX8_payOf 0 = .ok (.aload_n 0, 1) := dc0 (j := 0) sX8_payOf_0 rfl op_42
theorem dX8_payOf_1 : decode cX8_payOf 1 = .ok (.iload_n 1, 1) := dc0 (j := 1) sX8_payOf_0 rfl op_27
theorem dX8_payOf_2 : decode cX8_payOf 2 = .ok (.iload_n 2, 1) := dc0 (j := 2) sX8_payOf_0 rfl op_28
theorem dX8_payOf_3 : decode cX8_payOf 3 = .ok (.iconst 0, 1) := dc0 (j := 3) sX8_payOf_0 rfl op_3
theorem dX8_payOf_4 : decode cX8_payOf 4 = .ok (.invokevirtual 170, 3) := dcB (j := 4) (f := Instr.invokevirtual) sX8_payOf_0 rfl op_182 rfl
theorem dX8_payOf_7 : decode cX8_payOf 7 = .ok (.istore_n 3, 1) := dc0 (j := 7) sX8_payOf_0 rfl op_62
theorem dX8_payOf_8 : decode cX8_payOf 8 = .ok (.iload_n 3, 1) := dc0 (j := 8) sX8_payOf_0 rfl op_29
theorem dX8_payOf_9 : decode cX8_payOf 9 = .ok (.aload_n 0, 1) := dc0 (j := 9) sX8_payOf_0 rfl op_42
theorem dX8_payOf_10 : decode cX8_payOf 10 = .ok (.getfield 13, 3) := dcB (j := 10) (f := Instr.getfield) sX8_payOf_0 rfl op_180 rfl
theorem dX8_payOf_13 : decode cX8_payOf 13 = .ok (.bipush 34, 2) := dcSp (j := 13) (a := 34) (f := Instr.bipush) sX8_payOf_0 rfl op_16 rfl
theorem dX8_payOf_15 : decode cX8_payOf 15 = .ok (.iload_n 1, 1) := dc0 (j := 15) sX8_payOf_0 rfl op_27
theorem dX8_payOf_16 : decode cX8_payOf 16 = .ok (.iadd, 1) := dc0 (j := 16) sX8_payOf_0 rfl op_96
theorem dX8_payOf_17 : decode cX8_payOf 17 = .ok (.iaload, 1) := dc0 (j := 17) sX8_payOf_0 rfl op_46
theorem dX8_payOf_18 : decode cX8_payOf 18 = .ok (.if_icmp .lt 20, 3) := dcTp (j := 18) (v := 20) (f := Instr.if_icmp .lt) sX8_payOf_0 rfl op_161 rfl rfl
theorem dX8_payOf_21 : decode cX8_payOf 21 = .ok (.iload_n 3, 1) := dc0 (j := 21) sX8_payOf_0 rfl op_29
theorem dX8_payOf_22 : decode cX8_payOf 22 = .ok (.aload_n 0, 1) := dc0 (j := 22) sX8_payOf_0 rfl op_42
theorem dX8_payOf_23 : decode cX8_payOf 23 = .ok (.getfield 13, 3) := dcB (j := 23) (f := Instr.getfield) sX8_payOf_0 rfl op_180 rfl
theorem dX8_payOf_26 : decode cX8_payOf 26 = .ok (.bipush 44, 2) := dcSp (j := 26) (a := 44) (f := Instr.bipush) sX8_payOf_0 rfl op_16 rfl
theorem dX8_payOf_28 : decode cX8_payOf 28 = .ok (.iload_n 1, 1) := dc0 (j := 28) sX8_payOf_0 rfl op_27
theorem dX8_payOf_29 : decode cX8_payOf 29 = .ok (.iadd, 1) := dc0 (j := 29) sX8_payOf_0 rfl op_96
theorem dX8_payOf_30 : decode cX8_payOf 30 = .ok (.iaload, 1) := dc0 (j := 30) sX8_payOf_0 rfl op_46
theorem dX8_payOf_31 : decode cX8_payOf 31 = .ok (.if_icmp .gt 7, 3) := dcTp (j := 31) (v := 7) (f := Instr.if_icmp .gt) sX8_payOf_0 rfl op_163 rfl rfl
theorem dX8_payOf_34 : decode cX8_payOf 34 = .ok (.iconst 2, 1) := dc0 (j := 34) sX8_payOf_0 rfl op_5
theorem sX8_payOf_35 : sgm cX8_payOf 35 [167, 0, 4, 3, 28, 133, 27, 184, 0, 163, 153, 0, 7, 4, 167, 0, 4, 3, 100, 172] := by decide +kernel
theorem dX8_payOf_35 : decode cX8_payOf 35 = .ok (.goto 4, 3) := dcTp (j := 0) (v := 4) (f := Instr.goto) sX8_payOf_35 rfl op_167 rfl rfl
theorem dX8_payOf_38 : decode cX8_payOf 38 = .ok (.iconst 0, 1) := dc0 (j := 3) sX8_payOf_35 rfl op_3
theorem dX8_payOf_39 : decode cX8_payOf 39 = .ok (.iload_n 2, 1) := dc0 (j := 4) sX8_payOf_35 rfl op_28
theorem dX8_payOf_40 : decode cX8_payOf 40 = .ok (.i2l, 1) := dc0 (j := 5) sX8_payOf_35 rfl op_133
theorem dX8_payOf_41 : decode cX8_payOf 41 = .ok (.iload_n 1, 1) := dc0 (j := 6) sX8_payOf_35 rfl op_27
theorem dX8_payOf_42 : decode cX8_payOf 42 = .ok (.invokestatic 163, 3) := dcB (j := 7) (f := Instr.invokestatic) sX8_payOf_35 rfl op_184 rfl
theorem dX8_payOf_45 : decode cX8_payOf 45 = .ok (.ifCond .eq 7, 3) := dcTp (j := 10) (v := 7) (f := Instr.ifCond .eq) sX8_payOf_35 rfl op_153 rfl rfl
theorem dX8_payOf_48 : decode cX8_payOf 48 = .ok (.iconst 1, 1) := dc0 (j := 13) sX8_payOf_35 rfl op_4
theorem dX8_payOf_49 : decode cX8_payOf 49 = .ok (.goto 4, 3) := dcTp (j := 14) (v := 4) (f := Instr.goto) sX8_payOf_35 rfl op_167 rfl rfl
theorem dX8_payOf_52 : decode cX8_payOf 52 = .ok (.iconst 0, 1) := dc0 (j := 17) sX8_payOf_35 rfl op_3
theorem dX8_payOf_53 : decode cX8_payOf 53 = .ok (.isub, 1) := dc0 (j := 18) sX8_payOf_35 rfl op_100
theorem dX8_payOf_54 : decode cX8_payOf 54 = .ok (.ireturn, 1) := dc0 (j := 19) sX8_payOf_35 rfl op_172
theorem sX8_payOfAll_0 : sgm cX8_payOfAll 0 [3, 61, 3, 62, 29, 42, 180, 0, 13, 3, 46, 162, 0, 18, 28, 42, 29, 27, 182, 0, 253, 96, 61, 132, 3, 1, 167, 255, 234, 28, 172] := by decide +kernel
theorem dX8_payOfAll_0 : decode cX8_payOfAll 0 = .ok (.iconst 0, 1) := dc0 (j := 0) sX8_payOfAll_0 rfl op_3
theorem dX8_payOfAll_1 : decode cX8_payOfAll 1 = .ok (.istore_n 2, 1) := dc0 (j := 1) sX8_payOfAll_0 rfl op_61
theorem dX8_payOfAll_2 : decode cX8_payOfAll 2 = .ok (.iconst 0, 1) := dc0 (j := 2) sX8_payOfAll_0 rfl op_3
theorem dX8_payOfAll_3 : decode cX8_payOfAll 3 = .ok (.istore_n 3, 1) := dc0 (j := 3) sX8_payOfAll_0 rfl op_62
theorem dX8_payOfAll_4 : decode cX8_payOfAll 4 = .ok (.iload_n 3, 1) := dc0 (j := 4) sX8_payOfAll_0 rfl op_29
theorem dX8_payOfAll_5 : decode cX8_payOfAll 5 = .ok (.aload_n 0, 1) := dc0 (j := 5) sX8_payOfAll_0 rfl op_42
theorem dX8_payOfAll_6 : decode cX8_payOfAll 6 = .ok (.getfield 13, 3) := dcB (j := 6) (f := Instr.getfield) sX8_payOfAll_0 rfl op_180 rfl
theorem dX8_payOfAll_9 : decode cX8_payOfAll 9 = .ok (.iconst 0, 1) := dc0 (j := 9) sX8_payOfAll_0 rfl op_3
theorem dX8_payOfAll_10 : decode cX8_payOfAll 10 = .ok (.iaload, 1) := dc0 (j := 10) sX8_payOfAll_0 rfl op_46
theorem dX8_payOfAll_11 : decode cX8_payOfAll 11 = .ok (.if_icmp .ge 18, 3) := dcTp (j := 11) (v := 18) (f := Instr.if_icmp .ge) sX8_payOfAll_0 rfl op_162 rfl rfl
theorem dX8_payOfAll_14 : decode cX8_payOfAll 14 = .ok (.iload_n 2, 1) := dc0 (j := 14) sX8_payOfAll_0 rfl op_28
theorem dX8_payOfAll_15 : decode cX8_payOfAll 15 = .ok (.aload_n 0, 1) := dc0 (j := 15) sX8_payOfAll_0 rfl op_42
theorem dX8_payOfAll_16 : decode cX8_payOfAll 16 = .ok (.iload_n 3, 1) := dc0 (j := 16) sX8_payOfAll_0 rfl op_29
theorem dX8_payOfAll_17 : decode cX8_payOfAll 17 = .ok (.iload_n 1, 1) := dc0 (j := 17) sX8_payOfAll_0 rfl op_27
theorem dX8_payOfAll_18 : decode cX8_payOfAll 18 = .ok (.invokevirtual 253, 3) := dcB (j := 18) (f := Instr.invokevirtual) sX8_payOfAll_0 rfl op_182 rfl
theorem dX8_payOfAll_21 : decode cX8_payOfAll 21 = .ok (.iadd, 1) := dc0 (j := 21) sX8_payOfAll_0 rfl op_96
theorem dX8_payOfAll_22 : decode cX8_payOfAll 22 = .ok (.istore_n 2, 1) := dc0 (j := 22) sX8_payOfAll_0 rfl op_61
theorem dX8_payOfAll_23 : decode cX8_payOfAll 23 = .ok (.iinc 3 1, 3) := dcIp (j := 23) sX8_payOfAll_0 rfl op_132 rfl
theorem dX8_payOfAll_26 : decode cX8_payOfAll 26 = .ok (.goto (-22), 3) := dcTn (j := 26) (v := 22) (f := Instr.goto) sX8_payOfAll_0 rfl op_167 rfl rfl rfl
theorem dX8_payOfAll_29 : decode cX8_payOfAll 29 = .ok (.iload_n 2, 1) := dc0 (j := 29) sX8_payOfAll_0 rfl op_28
theorem dX8_payOfAll_30 : decode cX8_payOfAll 30 = .ok (.ireturn, 1) := dc0 (j := 30) sX8_payOfAll_0 rfl op_172
theorem sX8_peace_0 : sgm cX8_peace 0 [42, 3, 181, 0, 1, 27, 133, 9, 10, 184, 0, 124, 154, 0, 6, 16, 254, 172, 3, 61, 4, 62, 29, 4, 42, 180, 0, 13, 3, 46, 120, 162, 0, 24, 42, 29] := by decide +kernel
theorem dX8_peace_0 : decode cX8_peace 0 = .ok (.aload_n 0, 1) := dc0 (j := 0) sX8_peace_0 rfl op_42
theorem dX8_peace_1 : decode cX8_peace 1 = .ok (.iconst 0, 1) := dc0 (j := 1) sX8_peace_0 rfl op_3
theorem dX8_peace_2 : decode cX8_peace 2 = .ok (.putfield 1, 3) := dcB (j := 2) (f := Instr.putfield) sX8_peace_0 rfl op_181 rfl
theorem dX8_peace_5 : decode cX8_peace 5 = .ok (.iload_n 1, 1) := dc0 (j := 5) sX8_peace_0 rfl op_27
theorem dX8_peace_6 : decode cX8_peace 6 = .ok (.i2l, 1) := dc0 (j := 6) sX8_peace_0 rfl op_133
theorem dX8_peace_7 : decode cX8_peace 7 = .ok (.lconst 0, 1) := dc0 (j := 7) sX8_peace_0 rfl op_9
theorem dX8_peace_8 : decode cX8_peace 8 = .ok (.lconst 1, 1) := dc0 (j := 8) sX8_peace_0 rfl op_10
theorem dX8_peace_9 : decode cX8_peace 9 = .ok (.invokestatic 124, 3) := dcB (j := 9) (f := Instr.invokestatic) sX8_peace_0 rfl op_184 rfl
theorem dX8_peace_12 : decode cX8_peace 12 = .ok (.ifCond .ne 6, 3) := dcTp (j := 12) (v := 6) (f := Instr.ifCond .ne) sX8_peace_0 rfl op_154 rfl rfl
theorem dX8_peace_15 : decode cX8_peace 15 = .ok (.bipush (-2), 2) := dcSn (j := 15) (v := 2) (f := Instr.bipush) sX8_peace_0 rfl op_16 rfl rfl rfl
theorem dX8_peace_17 : decode cX8_peace 17 = .ok (.ireturn, 1) := dc0 (j := 17) sX8_peace_0 rfl op_172
theorem dX8_peace_18 : decode cX8_peace 18 = .ok (.iconst 0, 1) := dc0 (j := 18) sX8_peace_0 rfl op_3
theorem dX8_peace_19 : decode cX8_peace 19 = .ok (.istore_n 2, 1) := dc0 (j := 19) sX8_peace_0 rfl op_61
theorem dX8_peace_20 : decode cX8_peace 20 = .ok (.iconst 1, 1) := dc0 (j := 20) sX8_peace_0 rfl op_4
theorem dX8_peace_21 : decode cX8_peace 21 = .ok (.istore_n 3, 1) := dc0 (j := 21) sX8_peace_0 rfl op_62
theorem dX8_peace_22 : decode cX8_peace 22 = .ok (.iload_n 3, 1) := dc0 (j := 22) sX8_peace_0 rfl op_29
theorem dX8_peace_23 : decode cX8_peace 23 = .ok (.iconst 1, 1) := dc0 (j := 23) sX8_peace_0 rfl op_4
theorem dX8_peace_24 : decode cX8_peace 24 = .ok (.aload_n 0, 1) := dc0 (j := 24) sX8_peace_0 rfl op_42
theorem dX8_peace_25 : decode cX8_peace 25 = .ok (.getfield 13, 3) := dcB (j := 25) (f := Instr.getfield) sX8_peace_0 rfl op_180 rfl
theorem dX8_peace_28 : decode cX8_peace 28 = .ok (.iconst 0, 1) := dc0 (j := 28) sX8_peace_0 rfl op_3
theorem dX8_peace_29 : decode cX8_peace 29 = .ok (.iaload, 1) := dc0 (j := 29) sX8_peace_0 rfl op_46
theorem dX8_peace_30 : decode cX8_peace 30 = .ok (.ishl, 1) := dc0 (j := 30) sX8_peace_0 rfl op_120
theorem dX8_peace_31 : decode cX8_peace 31 = .ok (.if_icmp .ge 24, 3) := dcTp (j := 31) (v := 24) (f := Instr.if_icmp .ge) sX8_peace_0 rfl op_162 rfl rfl
theorem dX8_peace_34 : decode cX8_peace 34 = .ok (.aload_n 0, 1) := dc0 (j := 34) sX8_peace_0 rfl op_42
theorem dX8_peace_35 : decode cX8_peace 35 = .ok (.iload_n 3, 1) := dc0 (j := 35) sX8_peace_0 rfl op_29
theorem sX8_peace_36 : sgm cX8_peace 36 [182, 1, 0, 42, 28, 182, 1, 0, 164, 0, 5, 29, 61, 132, 3, 1, 167, 255, 226, 27, 154, 0, 11, 42, 28, 182, 1, 0, 167, 0, 4, 28, 172] := by decide +kernel
theorem dX8_peace_36 : decode cX8_peace 36 = .ok (.invokevirtual 256, 3) := dcB (j := 0) (f := Instr.invokevirtual) sX8_peace_36 rfl op_182 rfl
theorem dX8_peace_39 : decode cX8_peace 39 = .ok (.aload_n 0, 1) := dc0 (j := 3) sX8_peace_36 rfl op_42
theorem dX8_peace_40 : decode cX8_peace 40 = .ok (.iload_n 2, 1) := dc0 (j := 4) sX8_peace_36 rfl op_28
theorem dX8_peace_41 : decode cX8_peace 41 = .ok (.invokevirtual 256, 3) := dcB (j := 5) (f := Instr.invokevirtual) sX8_peace_36 rfl op_182 rfl
theorem dX8_peace_44 : decode cX8_peace 44 = .ok (.if_icmp .le 5, 3) := dcTp (j := 8) (v := 5) (f := Instr.if_icmp .le) sX8_peace_36 rfl op_164 rfl rfl
theorem dX8_peace_47 : decode cX8_peace 47 = .ok (.iload_n 3, 1) := dc0 (j := 11) sX8_peace_36 rfl op_29
theorem dX8_peace_48 : decode cX8_peace 48 = .ok (.istore_n 2, 1) := dc0 (j := 12) sX8_peace_36 rfl op_61
theorem dX8_peace_49 : decode cX8_peace 49 = .ok (.iinc 3 1, 3) := dcIp (j := 13) sX8_peace_36 rfl op_132 rfl
theorem dX8_peace_52 : decode cX8_peace 52 = .ok (.goto (-30), 3) := dcTn (j := 16) (v := 30) (f := Instr.goto) sX8_peace_36 rfl op_167 rfl rfl rfl
theorem dX8_peace_55 : decode cX8_peace 55 = .ok (.iload_n 1, 1) := dc0 (j := 19) sX8_peace_36 rfl op_27
theorem dX8_peace_56 : decode cX8_peace 56 = .ok (.ifCond .ne 11, 3) := dcTp (j := 20) (v := 11) (f := Instr.ifCond .ne) sX8_peace_36 rfl op_154 rfl rfl
theorem dX8_peace_59 : decode cX8_peace 59 = .ok (.aload_n 0, 1) := dc0 (j := 23) sX8_peace_36 rfl op_42
theorem dX8_peace_60 : decode cX8_peace 60 = .ok (.iload_n 2, 1) := dc0 (j := 24) sX8_peace_36 rfl op_28
theorem dX8_peace_61 : decode cX8_peace 61 = .ok (.invokevirtual 256, 3) := dcB (j := 25) (f := Instr.invokevirtual) sX8_peace_36 rfl op_182 rfl
theorem dX8_peace_64 : decode cX8_peace 64 = .ok (.goto 4, 3) := dcTp (j := 28) (v := 4) (f := Instr.goto) sX8_peace_36 rfl op_167 rfl rfl
theorem dX8_peace_67 : decode cX8_peace 67 = .ok (.iload_n 2, 1) := dc0 (j := 31) sX8_peace_36 rfl op_28
theorem dX8_peace_68 : decode cX8_peace 68 = .ok (.ireturn, 1) := dc0 (j := 32) sX8_peace_36 rfl op_172
theorem sX8_selfish_0 : sgm cX8_selfish 0 [42, 3, 181, 0, 1, 3, 61, 3, 62, 29, 4, 42, 180, 0, 13, 3, 46, 120, 162, 0, 84, 4, 54, 4, 3, 54, 5, 21, 5, 42, 180, 0, 13, 3, 46] := by decide +kernel
theorem dX8_selfish_0 : decode cX8_selfish 0 = .ok (.aload_n 0, 1) := dc0 (j := 0) sX8_selfish_0 rfl op_42
theorem dX8_selfish_1 : decode cX8_selfish 1 = .ok (.iconst 0, 1) := dc0 (j := 1) sX8_selfish_0 rfl op_3
theorem dX8_selfish_2 : decode cX8_selfish 2 = .ok (.putfield 1, 3) := dcB (j := 2) (f := Instr.putfield) sX8_selfish_0 rfl op_181 rfl
theorem dX8_selfish_5 : decode cX8_selfish 5 = .ok (.iconst 0, 1) := dc0 (j := 5) sX8_selfish_0 rfl op_3
theorem dX8_selfish_6 : decode cX8_selfish 6 = .ok (.istore_n 2, 1) := dc0 (j := 6) sX8_selfish_0 rfl op_61
theorem dX8_selfish_7 : decode cX8_selfish 7 = .ok (.iconst 0, 1) := dc0 (j := 7) sX8_selfish_0 rfl op_3
theorem dX8_selfish_8 : decode cX8_selfish 8 = .ok (.istore_n 3, 1) := dc0 (j := 8) sX8_selfish_0 rfl op_62
theorem dX8_selfish_9 : decode cX8_selfish 9 = .ok (.iload_n 3, 1) := dc0 (j := 9) sX8_selfish_0 rfl op_29
theorem dX8_selfish_10 : decode cX8_selfish 10 = .ok (.iconst 1, 1) := dc0 (j := 10) sX8_selfish_0 rfl op_4
theorem dX8_selfish_11 : decode cX8_selfish 11 = .ok (.aload_n 0, 1) := dc0 (j := 11) sX8_selfish_0 rfl op_42
theorem dX8_selfish_12 : decode cX8_selfish 12 = .ok (.getfield 13, 3) := dcB (j := 12) (f := Instr.getfield) sX8_selfish_0 rfl op_180 rfl
theorem dX8_selfish_15 : decode cX8_selfish 15 = .ok (.iconst 0, 1) := dc0 (j := 15) sX8_selfish_0 rfl op_3
theorem dX8_selfish_16 : decode cX8_selfish 16 = .ok (.iaload, 1) := dc0 (j := 16) sX8_selfish_0 rfl op_46
theorem dX8_selfish_17 : decode cX8_selfish 17 = .ok (.ishl, 1) := dc0 (j := 17) sX8_selfish_0 rfl op_120
theorem dX8_selfish_18 : decode cX8_selfish 18 = .ok (.if_icmp .ge 84, 3) := dcTp (j := 18) (v := 84) (f := Instr.if_icmp .ge) sX8_selfish_0 rfl op_162 rfl rfl
theorem dX8_selfish_21 : decode cX8_selfish 21 = .ok (.iconst 1, 1) := dc0 (j := 21) sX8_selfish_0 rfl op_4
theorem dX8_selfish_22 : decode cX8_selfish 22 = .ok (.istore 4, 2) := dcA (j := 22) (f := Instr.istore) sX8_selfish_0 rfl op_54
theorem dX8_selfish_24 : decode cX8_selfish 24 = .ok (.iconst 0, 1) := dc0 (j := 24) sX8_selfish_0 rfl op_3
theorem dX8_selfish_25 : decode cX8_selfish 25 = .ok (.istore 5, 2) := dcA (j := 25) (f := Instr.istore) sX8_selfish_0 rfl op_54
theorem dX8_selfish_27 : decode cX8_selfish 27 = .ok (.iload 5, 2) := dcA (j := 27) (f := Instr.iload) sX8_selfish_0 rfl op_21
theorem dX8_selfish_29 : decode cX8_selfish 29 = .ok (.aload_n 0, 1) := dc0 (j := 29) sX8_selfish_0 rfl op_42
theorem dX8_selfish_30 : decode cX8_selfish 30 = .ok (.getfield 13, 3) := dcB (j := 30) (f := Instr.getfield) sX8_selfish_0 rfl op_180 rfl
theorem dX8_selfish_33 : decode cX8_selfish 33 = .ok (.iconst 0, 1) := dc0 (j := 33) sX8_selfish_0 rfl op_3
theorem dX8_selfish_34 : decode cX8_selfish 34 = .ok (.iaload, 1) := dc0 (j := 34) sX8_selfish_0 rfl op_46
theorem sX8_selfish_35 : sgm cX8_selfish 35 [162, 0, 43, 21, 4, 153, 0, 38, 42, 21, 5, 29, 4, 21, 5, 120, 130, 182, 0, 253, 42, 21, 5, 29, 182, 0, 253, 163, 0, 7, 4, 167, 0, 4, 3] := by decide +kernel
theorem dX8_selfish_35 : decode cX8_selfish 35 = .ok (.if_icmp .ge 43, 3) := dcTp (j := 0) (v := 43) (f := Instr.if_icmp .ge) sX8_selfish_35 rfl op_162 rfl rfl
theorem dX8_selfish_38 : decode cX8_selfish 38 = .ok (.iload 4, 2) := dcA (j := 3) (f := Instr.iload) sX8_selfish_35 rfl op_21
theorem dX8_selfish_40 : decode cX8_selfish 40 = .ok (.ifCond .eq 38, 3) := dcTp (j := 5) (v := 38) (f := Instr.ifCond .eq) sX8_selfish_35 rfl op_153 rfl rfl
theorem dX8_selfish_43 : decode cX8_selfish 43 = .ok (.aload_n 0, 1) := dc0 (j := 8) sX8_selfish_35 rfl op_42
theorem dX8_selfish_44 : decode cX8_selfish 44 = .ok (.iload 5, 2) := dcA (j := 9) (f := Instr.iload) sX8_selfish_35 rfl op_21
theorem dX8_selfish_46 : decode cX8_selfish 46 = .ok (.iload_n 3, 1) := dc0 (j := 11) sX8_selfish_35 rfl op_29
theorem dX8_selfish_47 : decode cX8_selfish 47 = .ok (.iconst 1, 1) := dc0 (j := 12) sX8_selfish_35 rfl op_4
theorem dX8_selfish_48 : decode cX8_selfish 48 = .ok (.iload 5, 2) := dcA (j := 13) (f := Instr.iload) sX8_selfish_35 rfl op_21
theorem dX8_selfish_50 : decode cX8_selfish 50 = .ok (.ishl, 1) := dc0 (j := 15) sX8_selfish_35 rfl op_120
theorem dX8_selfish_51 : decode cX8_selfish 51 = .ok (.ixor, 1) := dc0 (j := 16) sX8_selfish_35 rfl op_130
theorem dX8_selfish_52 : decode cX8_selfish 52 = .ok (.invokevirtual 253, 3) := dcB (j := 17) (f := Instr.invokevirtual) sX8_selfish_35 rfl op_182 rfl
theorem dX8_selfish_55 : decode cX8_selfish 55 = .ok (.aload_n 0, 1) := dc0 (j := 20) sX8_selfish_35 rfl op_42
theorem dX8_selfish_56 : decode cX8_selfish 56 = .ok (.iload 5, 2) := dcA (j := 21) (f := Instr.iload) sX8_selfish_35 rfl op_21
theorem dX8_selfish_58 : decode cX8_selfish 58 = .ok (.iload_n 3, 1) := dc0 (j := 23) sX8_selfish_35 rfl op_29
theorem dX8_selfish_59 : decode cX8_selfish 59 = .ok (.invokevirtual 253, 3) := dcB (j := 24) (f := Instr.invokevirtual) sX8_selfish_35 rfl op_182 rfl
theorem dX8_selfish_62 : decode cX8_selfish 62 = .ok (.if_icmp .gt 7, 3) := dcTp (j := 27) (v := 7) (f := Instr.if_icmp .gt) sX8_selfish_35 rfl op_163 rfl rfl
theorem dX8_selfish_65 : decode cX8_selfish 65 = .ok (.iconst 1, 1) := dc0 (j := 30) sX8_selfish_35 rfl op_4
theorem dX8_selfish_66 : decode cX8_selfish 66 = .ok (.goto 4, 3) := dcTp (j := 31) (v := 4) (f := Instr.goto) sX8_selfish_35 rfl op_167 rfl rfl
theorem dX8_selfish_69 : decode cX8_selfish 69 = .ok (.iconst 0, 1) := dc0 (j := 34) sX8_selfish_35 rfl op_3
theorem sX8_selfish_70 : sgm cX8_selfish 70 [54, 4, 132, 5, 1, 167, 255, 208, 21, 4, 154, 0, 6, 167, 0, 13, 28, 27, 160, 0, 5, 29, 172, 132, 2, 1, 132, 3, 1, 167, 255, 166, 27, 2] := by decide +kernel
theorem dX8_selfish_70 : decode cX8_selfish 70 = .ok (.istore 4, 2) := dcA (j := 0) (f := Instr.istore) sX8_selfish_70 rfl op_54
theorem dX8_selfish_72 : decode cX8_selfish 72 = .ok (.iinc 5 1, 3) := dcIp (j := 2) sX8_selfish_70 rfl op_132 rfl
theorem dX8_selfish_75 : decode cX8_selfish 75 = .ok (.goto (-48), 3) := dcTn (j := 5) (v := 48) (f := Instr.goto) sX8_selfish_70 rfl op_167 rfl rfl rfl
theorem dX8_selfish_78 : decode cX8_selfish 78 = .ok (.iload 4, 2) := dcA (j := 8) (f := Instr.iload) sX8_selfish_70 rfl op_21
theorem dX8_selfish_80 : decode cX8_selfish 80 = .ok (.ifCond .ne 6, 3) := dcTp (j := 10) (v := 6) (f := Instr.ifCond .ne) sX8_selfish_70 rfl op_154 rfl rfl
theorem dX8_selfish_83 : decode cX8_selfish 83 = .ok (.goto 13, 3) := dcTp (j := 13) (v := 13) (f := Instr.goto) sX8_selfish_70 rfl op_167 rfl rfl
theorem dX8_selfish_86 : decode cX8_selfish 86 = .ok (.iload_n 2, 1) := dc0 (j := 16) sX8_selfish_70 rfl op_28
theorem dX8_selfish_87 : decode cX8_selfish 87 = .ok (.iload_n 1, 1) := dc0 (j := 17) sX8_selfish_70 rfl op_27
theorem dX8_selfish_88 : decode cX8_selfish 88 = .ok (.if_icmp .ne 5, 3) := dcTp (j := 18) (v := 5) (f := Instr.if_icmp .ne) sX8_selfish_70 rfl op_160 rfl rfl
theorem dX8_selfish_91 : decode cX8_selfish 91 = .ok (.iload_n 3, 1) := dc0 (j := 21) sX8_selfish_70 rfl op_29
theorem dX8_selfish_92 : decode cX8_selfish 92 = .ok (.ireturn, 1) := dc0 (j := 22) sX8_selfish_70 rfl op_172
theorem dX8_selfish_93 : decode cX8_selfish 93 = .ok (.iinc 2 1, 3) := dcIp (j := 23) sX8_selfish_70 rfl op_132 rfl
theorem dX8_selfish_96 : decode cX8_selfish 96 = .ok (.iinc 3 1, 3) := dcIp (j := 26) sX8_selfish_70 rfl op_132 rfl
theorem dX8_selfish_99 : decode cX8_selfish 99 = .ok (.goto (-90), 3) := dcTn (j := 29) (v := 90) (f := Instr.goto) sX8_selfish_70 rfl op_167 rfl rfl rfl
theorem dX8_selfish_102 : decode cX8_selfish 102 = .ok (.iload_n 1, 1) := dc0 (j := 32) sX8_selfish_70 rfl op_27
theorem dX8_selfish_103 : decode cX8_selfish 103 = .ok (.iconst (-1), 1) := dc0 (j := 33) sX8_selfish_70 rfl op_2
theorem sX8_selfish_104 : sgm cX8_selfish 104 [160, 0, 7, 28, 167, 0, 4, 2, 172] := by decide +kernel
theorem dX8_selfish_104 : decode cX8_selfish 104 = .ok (.if_icmp .ne 7, 3) := dcTp (j := 0) (v := 7) (f := Instr.if_icmp .ne) sX8_selfish_104 rfl op_160 rfl rfl
theorem dX8_selfish_107 : decode cX8_selfish 107 = .ok (.iload_n 2, 1) := dc0 (j := 3) sX8_selfish_104 rfl op_28
theorem dX8_selfish_108 : decode cX8_selfish 108 = .ok (.goto 4, 3) := dcTp (j := 4) (v := 4) (f := Instr.goto) sX8_selfish_104 rfl op_167 rfl rfl
theorem dX8_selfish_111 : decode cX8_selfish 111 = .ok (.iconst (-1), 1) := dc0 (j := 7) sX8_selfish_104 rfl op_2
theorem dX8_selfish_112 : decode cX8_selfish 112 = .ok (.ireturn, 1) := dc0 (j := 8) sX8_selfish_104 rfl op_172
theorem sX8_state_0 : sgm cX8_state 0 [9, 64, 3, 62, 29, 42, 180, 0, 13, 3, 46, 162, 0, 40, 20, 1, 3, 31, 105, 16, 32, 42, 180, 0, 13, 16, 24, 29, 96, 46, 104, 133, 97, 42] := by decide +kernel
theorem dX8_state_0 : decode cX8_state 0 = .ok (.lconst 0, 1) := dc0 (j := 0) sX8_state_0 rfl op_9
theorem dX8_state_1 : decode cX8_state 1 = .ok (.lstore_n 1, 1) := dc0 (j := 1) sX8_state_0 rfl op_64
theorem dX8_state_2 : decode cX8_state 2 = .ok (.iconst 0, 1) := dc0 (j := 2) sX8_state_0 rfl op_3
theorem dX8_state_3 : decode cX8_state 3 = .ok (.istore_n 3, 1) := dc0 (j := 3) sX8_state_0 rfl op_62
theorem dX8_state_4 : decode cX8_state 4 = .ok (.iload_n 3, 1) := dc0 (j := 4) sX8_state_0 rfl op_29
theorem dX8_state_5 : decode cX8_state 5 = .ok (.aload_n 0, 1) := dc0 (j := 5) sX8_state_0 rfl op_42
theorem dX8_state_6 : decode cX8_state 6 = .ok (.getfield 13, 3) := dcB (j := 6) (f := Instr.getfield) sX8_state_0 rfl op_180 rfl
theorem dX8_state_9 : decode cX8_state 9 = .ok (.iconst 0, 1) := dc0 (j := 9) sX8_state_0 rfl op_3
theorem dX8_state_10 : decode cX8_state 10 = .ok (.iaload, 1) := dc0 (j := 10) sX8_state_0 rfl op_46
theorem dX8_state_11 : decode cX8_state 11 = .ok (.if_icmp .ge 40, 3) := dcTp (j := 11) (v := 40) (f := Instr.if_icmp .ge) sX8_state_0 rfl op_162 rfl rfl
theorem dX8_state_14 : decode cX8_state 14 = .ok (.ldc2_w 259, 3) := dcB (j := 14) (f := Instr.ldc2_w) sX8_state_0 rfl op_20 rfl
theorem dX8_state_17 : decode cX8_state 17 = .ok (.lload_n 1, 1) := dc0 (j := 17) sX8_state_0 rfl op_31
theorem dX8_state_18 : decode cX8_state 18 = .ok (.lmul, 1) := dc0 (j := 18) sX8_state_0 rfl op_105
theorem dX8_state_19 : decode cX8_state 19 = .ok (.bipush 32, 2) := dcSp (j := 19) (a := 32) (f := Instr.bipush) sX8_state_0 rfl op_16 rfl
theorem dX8_state_21 : decode cX8_state 21 = .ok (.aload_n 0, 1) := dc0 (j := 21) sX8_state_0 rfl op_42
theorem dX8_state_22 : decode cX8_state 22 = .ok (.getfield 13, 3) := dcB (j := 22) (f := Instr.getfield) sX8_state_0 rfl op_180 rfl
theorem dX8_state_25 : decode cX8_state 25 = .ok (.bipush 24, 2) := dcSp (j := 25) (a := 24) (f := Instr.bipush) sX8_state_0 rfl op_16 rfl
theorem dX8_state_27 : decode cX8_state 27 = .ok (.iload_n 3, 1) := dc0 (j := 27) sX8_state_0 rfl op_29
theorem dX8_state_28 : decode cX8_state 28 = .ok (.iadd, 1) := dc0 (j := 28) sX8_state_0 rfl op_96
theorem dX8_state_29 : decode cX8_state 29 = .ok (.iaload, 1) := dc0 (j := 29) sX8_state_0 rfl op_46
theorem dX8_state_30 : decode cX8_state 30 = .ok (.imul, 1) := dc0 (j := 30) sX8_state_0 rfl op_104
theorem dX8_state_31 : decode cX8_state 31 = .ok (.i2l, 1) := dc0 (j := 31) sX8_state_0 rfl op_133
theorem dX8_state_32 : decode cX8_state 32 = .ok (.ladd, 1) := dc0 (j := 32) sX8_state_0 rfl op_97
theorem dX8_state_33 : decode cX8_state 33 = .ok (.aload_n 0, 1) := dc0 (j := 33) sX8_state_0 rfl op_42
theorem sX8_state_34 : sgm cX8_state 34 [180, 0, 13, 16, 64, 29, 96, 46, 133, 97, 64, 132, 3, 1, 167, 255, 212, 31, 173] := by decide +kernel
theorem dX8_state_34 : decode cX8_state 34 = .ok (.getfield 13, 3) := dcB (j := 0) (f := Instr.getfield) sX8_state_34 rfl op_180 rfl
theorem dX8_state_37 : decode cX8_state 37 = .ok (.bipush 64, 2) := dcSp (j := 3) (a := 64) (f := Instr.bipush) sX8_state_34 rfl op_16 rfl
theorem dX8_state_39 : decode cX8_state 39 = .ok (.iload_n 3, 1) := dc0 (j := 5) sX8_state_34 rfl op_29
theorem dX8_state_40 : decode cX8_state 40 = .ok (.iadd, 1) := dc0 (j := 6) sX8_state_34 rfl op_96
theorem dX8_state_41 : decode cX8_state 41 = .ok (.iaload, 1) := dc0 (j := 7) sX8_state_34 rfl op_46
theorem dX8_state_42 : decode cX8_state 42 = .ok (.i2l, 1) := dc0 (j := 8) sX8_state_34 rfl op_133
theorem dX8_state_43 : decode cX8_state 43 = .ok (.ladd, 1) := dc0 (j := 9) sX8_state_34 rfl op_97
theorem dX8_state_44 : decode cX8_state 44 = .ok (.lstore_n 1, 1) := dc0 (j := 10) sX8_state_34 rfl op_64
theorem dX8_state_45 : decode cX8_state 45 = .ok (.iinc 3 1, 3) := dcIp (j := 11) sX8_state_34 rfl op_132 rfl
theorem dX8_state_48 : decode cX8_state 48 = .ok (.goto (-44), 3) := dcTn (j := 14) (v := 44) (f := Instr.goto) sX8_state_34 rfl op_167 rfl rfl rfl
theorem dX8_state_51 : decode cX8_state 51 = .ok (.lload_n 1, 1) := dc0 (j := 17) sX8_state_34 rfl op_31
theorem dX8_state_52 : decode cX8_state 52 = .ok (.lreturn, 1) := dc0 (j := 18) sX8_state_34 rfl op_173
theorem sX8_becomes_0 : sgm cX8_becomes 0 [31, 66, 42, 180, 0, 13, 3, 46, 4, 100, 54, 5, 21, 5, 155, 0, 50, 42, 180, 0, 13, 16, 24, 21, 5, 96, 33, 20, 1, 3, 113, 136, 16, 32, 108, 79] := by decide +kernel
theorem dX8_becomes_0 : decode cX8_becomes 0 = .ok (.lload_n 1, 1) := dc0 (j := 0) sX8_becomes_0 rfl op_31
theorem dX8_becomes_1 : decode cX8_becomes 1 = .ok (.lstore_n 3, 1) := dc0 (j := 1) sX8_becomes_0 rfl op_66
theorem dX8_becomes_2 : decode cX8_becomes 2 = .ok (.aload_n 0, 1) := dc0 (j := 2) sX8_becomes_0 rfl op_42
theorem dX8_becomes_3 : decode cX8_becomes 3 = .ok (.getfield 13, 3) := dcB (j := 3) (f := Instr.getfield) sX8_becomes_0 rfl op_180 rfl
theorem dX8_becomes_6 : decode cX8_becomes 6 = .ok (.iconst 0, 1) := dc0 (j := 6) sX8_becomes_0 rfl op_3
theorem dX8_becomes_7 : decode cX8_becomes 7 = .ok (.iaload, 1) := dc0 (j := 7) sX8_becomes_0 rfl op_46
theorem dX8_becomes_8 : decode cX8_becomes 8 = .ok (.iconst 1, 1) := dc0 (j := 8) sX8_becomes_0 rfl op_4
theorem dX8_becomes_9 : decode cX8_becomes 9 = .ok (.isub, 1) := dc0 (j := 9) sX8_becomes_0 rfl op_100
theorem dX8_becomes_10 : decode cX8_becomes 10 = .ok (.istore 5, 2) := dcA (j := 10) (f := Instr.istore) sX8_becomes_0 rfl op_54
theorem dX8_becomes_12 : decode cX8_becomes 12 = .ok (.iload 5, 2) := dcA (j := 12) (f := Instr.iload) sX8_becomes_0 rfl op_21
theorem dX8_becomes_14 : decode cX8_becomes 14 = .ok (.ifCond .lt 50, 3) := dcTp (j := 14) (v := 50) (f := Instr.ifCond .lt) sX8_becomes_0 rfl op_155 rfl rfl
theorem dX8_becomes_17 : decode cX8_becomes 17 = .ok (.aload_n 0, 1) := dc0 (j := 17) sX8_becomes_0 rfl op_42
theorem dX8_becomes_18 : decode cX8_becomes 18 = .ok (.getfield 13, 3) := dcB (j := 18) (f := Instr.getfield) sX8_becomes_0 rfl op_180 rfl
theorem dX8_becomes_21 : decode cX8_becomes 21 = .ok (.bipush 24, 2) := dcSp (j := 21) (a := 24) (f := Instr.bipush) sX8_becomes_0 rfl op_16 rfl
theorem dX8_becomes_23 : decode cX8_becomes 23 = .ok (.iload 5, 2) := dcA (j := 23) (f := Instr.iload) sX8_becomes_0 rfl op_21
theorem dX8_becomes_25 : decode cX8_becomes 25 = .ok (.iadd, 1) := dc0 (j := 25) sX8_becomes_0 rfl op_96
theorem dX8_becomes_26 : decode cX8_becomes 26 = .ok (.lload_n 3, 1) := dc0 (j := 26) sX8_becomes_0 rfl op_33
theorem dX8_becomes_27 : decode cX8_becomes 27 = .ok (.ldc2_w 259, 3) := dcB (j := 27) (f := Instr.ldc2_w) sX8_becomes_0 rfl op_20 rfl
theorem dX8_becomes_30 : decode cX8_becomes 30 = .ok (.lrem, 1) := dc0 (j := 30) sX8_becomes_0 rfl op_113
theorem dX8_becomes_31 : decode cX8_becomes 31 = .ok (.l2i, 1) := dc0 (j := 31) sX8_becomes_0 rfl op_136
theorem dX8_becomes_32 : decode cX8_becomes 32 = .ok (.bipush 32, 2) := dcSp (j := 32) (a := 32) (f := Instr.bipush) sX8_becomes_0 rfl op_16 rfl
theorem dX8_becomes_34 : decode cX8_becomes 34 = .ok (.idiv, 1) := dc0 (j := 34) sX8_becomes_0 rfl op_108
theorem dX8_becomes_35 : decode cX8_becomes 35 = .ok (.iastore, 1) := dc0 (j := 35) sX8_becomes_0 rfl op_79
theorem sX8_becomes_36 : sgm cX8_becomes 36 [42, 180, 0, 13, 16, 64, 21, 5, 96, 33, 20, 1, 5, 113, 136, 79, 33, 20, 1, 3, 109, 66, 132, 5, 255, 167, 255, 207, 177] := by decide +kernel
theorem dX8_becomes_36 : decode cX8_becomes 36 = .ok (.aload_n 0, 1) := dc0 (j := 0) sX8_becomes_36 rfl op_42
theorem dX8_becomes_37 : decode cX8_becomes 37 = .ok (.getfield 13, 3) := dcB (j := 1) (f := Instr.getfield) sX8_becomes_36 rfl op_180 rfl
theorem dX8_becomes_40 : decode cX8_becomes 40 = .ok (.bipush 64, 2) := dcSp (j := 4) (a := 64) (f := Instr.bipush) sX8_becomes_36 rfl op_16 rfl
theorem dX8_becomes_42 : decode cX8_becomes 42 = .ok (.iload 5, 2) := dcA (j := 6) (f := Instr.iload) sX8_becomes_36 rfl op_21
theorem dX8_becomes_44 : decode cX8_becomes 44 = .ok (.iadd, 1) := dc0 (j := 8) sX8_becomes_36 rfl op_96
theorem dX8_becomes_45 : decode cX8_becomes 45 = .ok (.lload_n 3, 1) := dc0 (j := 9) sX8_becomes_36 rfl op_33
theorem dX8_becomes_46 : decode cX8_becomes 46 = .ok (.ldc2_w 261, 3) := dcB (j := 10) (f := Instr.ldc2_w) sX8_becomes_36 rfl op_20 rfl
theorem dX8_becomes_49 : decode cX8_becomes 49 = .ok (.lrem, 1) := dc0 (j := 13) sX8_becomes_36 rfl op_113
theorem dX8_becomes_50 : decode cX8_becomes 50 = .ok (.l2i, 1) := dc0 (j := 14) sX8_becomes_36 rfl op_136
theorem dX8_becomes_51 : decode cX8_becomes 51 = .ok (.iastore, 1) := dc0 (j := 15) sX8_becomes_36 rfl op_79
theorem dX8_becomes_52 : decode cX8_becomes 52 = .ok (.lload_n 3, 1) := dc0 (j := 16) sX8_becomes_36 rfl op_33
theorem dX8_becomes_53 : decode cX8_becomes 53 = .ok (.ldc2_w 259, 3) := dcB (j := 17) (f := Instr.ldc2_w) sX8_becomes_36 rfl op_20 rfl
theorem dX8_becomes_56 : decode cX8_becomes 56 = .ok (.ldiv, 1) := dc0 (j := 20) sX8_becomes_36 rfl op_109
theorem dX8_becomes_57 : decode cX8_becomes 57 = .ok (.lstore_n 3, 1) := dc0 (j := 21) sX8_becomes_36 rfl op_66
theorem dX8_becomes_58 : decode cX8_becomes 58 = .ok (.iinc 5 (-1), 3) := dcIn (j := 22) (v := 1) sX8_becomes_36 rfl op_132 rfl rfl rfl
theorem dX8_becomes_61 : decode cX8_becomes 61 = .ok (.goto (-49), 3) := dcTn (j := 25) (v := 49) (f := Instr.goto) sX8_becomes_36 rfl op_167 rfl rfl rfl
theorem dX8_becomes_64 : decode cX8_becomes 64 = .ok (.return_, 1) := dc0 (j := 28) sX8_becomes_36 rfl op_177
theorem sX8_meets_0 : sgm cX8_meets 0 [31, 20, 1, 7, 113, 136, 62, 42, 180, 0, 46, 29, 46, 158, 0, 33, 42, 180, 0, 43, 42, 180, 0, 46, 29, 46, 4, 100, 47, 31, 148, 154, 0, 4, 177, 29] := by decide +kernel
theorem dX8_meets_0 : decode cX8_meets 0 = .ok (.lload_n 1, 1) := dc0 (j := 0) sX8_meets_0 rfl op_31
theorem dX8_meets_1 : decode cX8_meets 1 = .ok (.ldc2_w 263, 3) := dcB (j := 1) (f := Instr.ldc2_w) sX8_meets_0 rfl op_20 rfl
theorem dX8_meets_4 : decode cX8_meets 4 = .ok (.lrem, 1) := dc0 (j := 4) sX8_meets_0 rfl op_113
theorem dX8_meets_5 : decode cX8_meets 5 = .ok (.l2i, 1) := dc0 (j := 5) sX8_meets_0 rfl op_136
theorem dX8_meets_6 : decode cX8_meets 6 = .ok (.istore_n 3, 1) := dc0 (j := 6) sX8_meets_0 rfl op_62
theorem dX8_meets_7 : decode cX8_meets 7 = .ok (.aload_n 0, 1) := dc0 (j := 7) sX8_meets_0 rfl op_42
theorem dX8_meets_8 : decode cX8_meets 8 = .ok (.getfield 46, 3) := dcB (j := 8) (f := Instr.getfield) sX8_meets_0 rfl op_180 rfl
theorem dX8_meets_11 : decode cX8_meets 11 = .ok (.iload_n 3, 1) := dc0 (j := 11) sX8_meets_0 rfl op_29
theorem dX8_meets_12 : decode cX8_meets 12 = .ok (.iaload, 1) := dc0 (j := 12) sX8_meets_0 rfl op_46
theorem dX8_meets_13 : decode cX8_meets 13 = .ok (.ifCond .le 33, 3) := dcTp (j := 13) (v := 33) (f := Instr.ifCond .le) sX8_meets_0 rfl op_158 rfl rfl
theorem dX8_meets_16 : decode cX8_meets 16 = .ok (.aload_n 0, 1) := dc0 (j := 16) sX8_meets_0 rfl op_42
theorem dX8_meets_17 : decode cX8_meets 17 = .ok (.getfield 43, 3) := dcB (j := 17) (f := Instr.getfield) sX8_meets_0 rfl op_180 rfl
theorem dX8_meets_20 : decode cX8_meets 20 = .ok (.aload_n 0, 1) := dc0 (j := 20) sX8_meets_0 rfl op_42
theorem dX8_meets_21 : decode cX8_meets 21 = .ok (.getfield 46, 3) := dcB (j := 21) (f := Instr.getfield) sX8_meets_0 rfl op_180 rfl
theorem dX8_meets_24 : decode cX8_meets 24 = .ok (.iload_n 3, 1) := dc0 (j := 24) sX8_meets_0 rfl op_29
theorem dX8_meets_25 : decode cX8_meets 25 = .ok (.iaload, 1) := dc0 (j := 25) sX8_meets_0 rfl op_46
theorem dX8_meets_26 : decode cX8_meets 26 = .ok (.iconst 1, 1) := dc0 (j := 26) sX8_meets_0 rfl op_4
theorem dX8_meets_27 : decode cX8_meets 27 = .ok (.isub, 1) := dc0 (j := 27) sX8_meets_0 rfl op_100
theorem dX8_meets_28 : decode cX8_meets 28 = .ok (.laload, 1) := dc0 (j := 28) sX8_meets_0 rfl op_47
theorem dX8_meets_29 : decode cX8_meets 29 = .ok (.lload_n 1, 1) := dc0 (j := 29) sX8_meets_0 rfl op_31
theorem dX8_meets_30 : decode cX8_meets 30 = .ok (.lcmp, 1) := dc0 (j := 30) sX8_meets_0 rfl op_148
theorem dX8_meets_31 : decode cX8_meets 31 = .ok (.ifCond .ne 4, 3) := dcTp (j := 31) (v := 4) (f := Instr.ifCond .ne) sX8_meets_0 rfl op_154 rfl rfl
theorem dX8_meets_34 : decode cX8_meets 34 = .ok (.return_, 1) := dc0 (j := 34) sX8_meets_0 rfl op_177
theorem dX8_meets_35 : decode cX8_meets 35 = .ok (.iload_n 3, 1) := dc0 (j := 35) sX8_meets_0 rfl op_29
theorem sX8_meets_36 : sgm cX8_meets 36 [4, 96, 17, 32, 0, 112, 62, 167, 255, 220, 42, 180, 1, 9, 17, 11, 185, 160, 0, 4, 177, 42, 180, 0, 43, 42, 180, 1, 9, 31, 80, 42, 89, 180, 1, 9] := by decide +kernel
theorem dX8_meets_36 : decode cX8_meets 36 = .ok (.iconst 1, 1) := dc0 (j := 0) sX8_meets_36 rfl op_4
theorem dX8_meets_37 : decode cX8_meets 37 = .ok (.iadd, 1) := dc0 (j := 1) sX8_meets_36 rfl op_96
theorem dX8_meets_38 : decode cX8_meets 38 = .ok (.sipush 8192, 3) := dcTp (j := 2) (v := 8192) (f := Instr.sipush) sX8_meets_36 rfl op_17 rfl rfl
theorem dX8_meets_41 : decode cX8_meets 41 = .ok (.irem, 1) := dc0 (j := 5) sX8_meets_36 rfl op_112
theorem dX8_meets_42 : decode cX8_meets 42 = .ok (.istore_n 3, 1) := dc0 (j := 6) sX8_meets_36 rfl op_62
theorem dX8_meets_43 : decode cX8_meets 43 = .ok (.goto (-36), 3) := dcTn (j := 7) (v := 36) (f := Instr.goto) sX8_meets_36 rfl op_167 rfl rfl rfl
theorem dX8_meets_46 : decode cX8_meets 46 = .ok (.aload_n 0, 1) := dc0 (j := 10) sX8_meets_36 rfl op_42
theorem dX8_meets_47 : decode cX8_meets 47 = .ok (.getfield 265, 3) := dcB (j := 11) (f := Instr.getfield) sX8_meets_36 rfl op_180 rfl
theorem dX8_meets_50 : decode cX8_meets 50 = .ok (.sipush 3001, 3) := dcTp (j := 14) (v := 3001) (f := Instr.sipush) sX8_meets_36 rfl op_17 rfl rfl
theorem dX8_meets_53 : decode cX8_meets 53 = .ok (.if_icmp .ne 4, 3) := dcTp (j := 17) (v := 4) (f := Instr.if_icmp .ne) sX8_meets_36 rfl op_160 rfl rfl
theorem dX8_meets_56 : decode cX8_meets 56 = .ok (.return_, 1) := dc0 (j := 20) sX8_meets_36 rfl op_177
theorem dX8_meets_57 : decode cX8_meets 57 = .ok (.aload_n 0, 1) := dc0 (j := 21) sX8_meets_36 rfl op_42
theorem dX8_meets_58 : decode cX8_meets 58 = .ok (.getfield 43, 3) := dcB (j := 22) (f := Instr.getfield) sX8_meets_36 rfl op_180 rfl
theorem dX8_meets_61 : decode cX8_meets 61 = .ok (.aload_n 0, 1) := dc0 (j := 25) sX8_meets_36 rfl op_42
theorem dX8_meets_62 : decode cX8_meets 62 = .ok (.getfield 265, 3) := dcB (j := 26) (f := Instr.getfield) sX8_meets_36 rfl op_180 rfl
theorem dX8_meets_65 : decode cX8_meets 65 = .ok (.lload_n 1, 1) := dc0 (j := 29) sX8_meets_36 rfl op_31
theorem dX8_meets_66 : decode cX8_meets 66 = .ok (.lastore, 1) := dc0 (j := 30) sX8_meets_36 rfl op_80
theorem dX8_meets_67 : decode cX8_meets 67 = .ok (.aload_n 0, 1) := dc0 (j := 31) sX8_meets_36 rfl op_42
theorem dX8_meets_68 : decode cX8_meets 68 = .ok (.dup, 1) := dc0 (j := 32) sX8_meets_36 rfl op_89
theorem dX8_meets_69 : decode cX8_meets 69 = .ok (.getfield 265, 3) := dcB (j := 33) (f := Instr.getfield) sX8_meets_36 rfl op_180 rfl
theorem sX8_meets_72 : sgm cX8_meets 72 [4, 96, 181, 1, 9, 42, 180, 0, 46, 29, 42, 180, 1, 9, 79, 177] := by decide +kernel
theorem dX8_meets_72 : decode cX8_meets 72 = .ok (.iconst 1, 1) := dc0 (j := 0) sX8_meets_72 rfl op_4
theorem dX8_meets_73 : decode cX8_meets 73 = .ok (.iadd, 1) := dc0 (j := 1) sX8_meets_72 rfl op_96
theorem dX8_meets_74 : decode cX8_meets 74 = .ok (.putfield 265, 3) := dcB (j := 2) (f := Instr.putfield) sX8_meets_72 rfl op_181 rfl
theorem dX8_meets_77 : decode cX8_meets 77 = .ok (.aload_n 0, 1) := dc0 (j := 5) sX8_meets_72 rfl op_42
theorem dX8_meets_78 : decode cX8_meets 78 = .ok (.getfield 46, 3) := dcB (j := 6) (f := Instr.getfield) sX8_meets_72 rfl op_180 rfl
theorem dX8_meets_81 : decode cX8_meets 81 = .ok (.iload_n 3, 1) := dc0 (j := 9) sX8_meets_72 rfl op_29
theorem dX8_meets_82 : decode cX8_meets 82 = .ok (.aload_n 0, 1) := dc0 (j := 10) sX8_meets_72 rfl op_42
theorem dX8_meets_83 : decode cX8_meets 83 = .ok (.getfield 265, 3) := dcB (j := 11) (f := Instr.getfield) sX8_meets_72 rfl op_180 rfl
theorem dX8_meets_86 : decode cX8_meets 86 = .ok (.iastore, 1) := dc0 (j := 14) sX8_meets_72 rfl op_79
theorem dX8_meets_87 : decode cX8_meets 87 = .ok (.return_, 1) := dc0 (j := 15) sX8_meets_72 rfl op_177
theorem sX8_doesAll_0 : sgm cX8_doesAll 0 [4, 62, 3, 54, 4, 21, 4, 42, 180, 0, 13, 3, 46, 162, 0, 13, 29, 6, 104, 62, 132, 4, 1, 167, 255, 238, 3, 54, 4, 21, 4, 29, 162, 0, 126, 3] := by decide +kernel
theorem dX8_doesAll_0 : decode cX8_doesAll 0 = .ok (.iconst 1, 1) := dc0 (j := 0) sX8_doesAll_0 rfl op_4
theorem dX8_doesAll_1 : decode cX8_doesAll 1 = .ok (.istore_n 3, 1) := dc0 (j := 1) sX8_doesAll_0 rfl op_62
theorem dX8_doesAll_2 : decode cX8_doesAll 2 = .ok (.iconst 0, 1) := dc0 (j := 2) sX8_doesAll_0 rfl op_3
theorem dX8_doesAll_3 : decode cX8_doesAll 3 = .ok (.istore 4, 2) := dcA (j := 3) (f := Instr.istore) sX8_doesAll_0 rfl op_54
theorem dX8_doesAll_5 : decode cX8_doesAll 5 = .ok (.iload 4, 2) := dcA (j := 5) (f := Instr.iload) sX8_doesAll_0 rfl op_21
theorem dX8_doesAll_7 : decode cX8_doesAll 7 = .ok (.aload_n 0, 1) := dc0 (j := 7) sX8_doesAll_0 rfl op_42
theorem dX8_doesAll_8 : decode cX8_doesAll 8 = .ok (.getfield 13, 3) := dcB (j := 8) (f := Instr.getfield) sX8_doesAll_0 rfl op_180 rfl
theorem dX8_doesAll_11 : decode cX8_doesAll 11 = .ok (.iconst 0, 1) := dc0 (j := 11) sX8_doesAll_0 rfl op_3
theorem dX8_doesAll_12 : decode cX8_doesAll 12 = .ok (.iaload, 1) := dc0 (j := 12) sX8_doesAll_0 rfl op_46
theorem dX8_doesAll_13 : decode cX8_doesAll 13 = .ok (.if_icmp .ge 13, 3) := dcTp (j := 13) (v := 13) (f := Instr.if_icmp .ge) sX8_doesAll_0 rfl op_162 rfl rfl
theorem dX8_doesAll_16 : decode cX8_doesAll 16 = .ok (.iload_n 3, 1) := dc0 (j := 16) sX8_doesAll_0 rfl op_29
theorem dX8_doesAll_17 : decode cX8_doesAll 17 = .ok (.iconst 3, 1) := dc0 (j := 17) sX8_doesAll_0 rfl op_6
theorem dX8_doesAll_18 : decode cX8_doesAll 18 = .ok (.imul, 1) := dc0 (j := 18) sX8_doesAll_0 rfl op_104
theorem dX8_doesAll_19 : decode cX8_doesAll 19 = .ok (.istore_n 3, 1) := dc0 (j := 19) sX8_doesAll_0 rfl op_62
theorem dX8_doesAll_20 : decode cX8_doesAll 20 = .ok (.iinc 4 1, 3) := dcIp (j := 20) sX8_doesAll_0 rfl op_132 rfl
theorem dX8_doesAll_23 : decode cX8_doesAll 23 = .ok (.goto (-18), 3) := dcTn (j := 23) (v := 18) (f := Instr.goto) sX8_doesAll_0 rfl op_167 rfl rfl rfl
theorem dX8_doesAll_26 : decode cX8_doesAll 26 = .ok (.iconst 0, 1) := dc0 (j := 26) sX8_doesAll_0 rfl op_3
theorem dX8_doesAll_27 : decode cX8_doesAll 27 = .ok (.istore 4, 2) := dcA (j := 27) (f := Instr.istore) sX8_doesAll_0 rfl op_54
theorem dX8_doesAll_29 : decode cX8_doesAll 29 = .ok (.iload 4, 2) := dcA (j := 29) (f := Instr.iload) sX8_doesAll_0 rfl op_21
theorem dX8_doesAll_31 : decode cX8_doesAll 31 = .ok (.iload_n 3, 1) := dc0 (j := 31) sX8_doesAll_0 rfl op_29
theorem dX8_doesAll_32 : decode cX8_doesAll 32 = .ok (.if_icmp .ge 126, 3) := dcTp (j := 32) (v := 126) (f := Instr.if_icmp .ge) sX8_doesAll_0 rfl op_162 rfl rfl
theorem dX8_doesAll_35 : decode cX8_doesAll 35 = .ok (.iconst 0, 1) := dc0 (j := 35) sX8_doesAll_0 rfl op_3
theorem sX8_doesAll_36 : sgm cX8_doesAll 36 [54, 5, 3, 54, 6, 21, 4, 54, 7, 3, 54, 8, 21, 8, 42, 180, 0, 13, 3, 46, 162, 0, 57, 21, 5, 21, 7, 6, 112, 4, 160, 0, 10, 4, 21, 8] := by decide +kernel
theorem dX8_doesAll_36 : decode cX8_doesAll 36 = .ok (.istore 5, 2) := dcA (j := 0) (f := Instr.istore) sX8_doesAll_36 rfl op_54
theorem dX8_doesAll_38 : decode cX8_doesAll 38 = .ok (.iconst 0, 1) := dc0 (j := 2) sX8_doesAll_36 rfl op_3
theorem dX8_doesAll_39 : decode cX8_doesAll 39 = .ok (.istore 6, 2) := dcA (j := 3) (f := Instr.istore) sX8_doesAll_36 rfl op_54
theorem dX8_doesAll_41 : decode cX8_doesAll 41 = .ok (.iload 4, 2) := dcA (j := 5) (f := Instr.iload) sX8_doesAll_36 rfl op_21
theorem dX8_doesAll_43 : decode cX8_doesAll 43 = .ok (.istore 7, 2) := dcA (j := 7) (f := Instr.istore) sX8_doesAll_36 rfl op_54
theorem dX8_doesAll_45 : decode cX8_doesAll 45 = .ok (.iconst 0, 1) := dc0 (j := 9) sX8_doesAll_36 rfl op_3
theorem dX8_doesAll_46 : decode cX8_doesAll 46 = .ok (.istore 8, 2) := dcA (j := 10) (f := Instr.istore) sX8_doesAll_36 rfl op_54
theorem dX8_doesAll_48 : decode cX8_doesAll 48 = .ok (.iload 8, 2) := dcA (j := 12) (f := Instr.iload) sX8_doesAll_36 rfl op_21
theorem dX8_doesAll_50 : decode cX8_doesAll 50 = .ok (.aload_n 0, 1) := dc0 (j := 14) sX8_doesAll_36 rfl op_42
theorem dX8_doesAll_51 : decode cX8_doesAll 51 = .ok (.getfield 13, 3) := dcB (j := 15) (f := Instr.getfield) sX8_doesAll_36 rfl op_180 rfl
theorem dX8_doesAll_54 : decode cX8_doesAll 54 = .ok (.iconst 0, 1) := dc0 (j := 18) sX8_doesAll_36 rfl op_3
theorem dX8_doesAll_55 : decode cX8_doesAll 55 = .ok (.iaload, 1) := dc0 (j := 19) sX8_doesAll_36 rfl op_46
theorem dX8_doesAll_56 : decode cX8_doesAll 56 = .ok (.if_icmp .ge 57, 3) := dcTp (j := 20) (v := 57) (f := Instr.if_icmp .ge) sX8_doesAll_36 rfl op_162 rfl rfl
theorem dX8_doesAll_59 : decode cX8_doesAll 59 = .ok (.iload 5, 2) := dcA (j := 23) (f := Instr.iload) sX8_doesAll_36 rfl op_21
theorem dX8_doesAll_61 : decode cX8_doesAll 61 = .ok (.iload 7, 2) := dcA (j := 25) (f := Instr.iload) sX8_doesAll_36 rfl op_21
theorem dX8_doesAll_63 : decode cX8_doesAll 63 = .ok (.iconst 3, 1) := dc0 (j := 27) sX8_doesAll_36 rfl op_6
theorem dX8_doesAll_64 : decode cX8_doesAll 64 = .ok (.irem, 1) := dc0 (j := 28) sX8_doesAll_36 rfl op_112
theorem dX8_doesAll_65 : decode cX8_doesAll 65 = .ok (.iconst 1, 1) := dc0 (j := 29) sX8_doesAll_36 rfl op_4
theorem dX8_doesAll_66 : decode cX8_doesAll 66 = .ok (.if_icmp .ne 10, 3) := dcTp (j := 30) (v := 10) (f := Instr.if_icmp .ne) sX8_doesAll_36 rfl op_160 rfl rfl
theorem dX8_doesAll_69 : decode cX8_doesAll 69 = .ok (.iconst 1, 1) := dc0 (j := 33) sX8_doesAll_36 rfl op_4
theorem dX8_doesAll_70 : decode cX8_doesAll 70 = .ok (.iload 8, 2) := dcA (j := 34) (f := Instr.iload) sX8_doesAll_36 rfl op_21
theorem sX8_doesAll_72 : sgm cX8_doesAll 72 [120, 167, 0, 4, 3, 128, 54, 5, 21, 6, 21, 7, 6, 112, 5, 160, 0, 10, 4, 21, 8, 120, 167, 0, 4, 3, 128, 54, 6, 21, 7, 6, 108, 54, 7] := by decide +kernel
theorem dX8_doesAll_72 : decode cX8_doesAll 72 = .ok (.ishl, 1) := dc0 (j := 0) sX8_doesAll_72 rfl op_120
theorem dX8_doesAll_73 : decode cX8_doesAll 73 = .ok (.goto 4, 3) := dcTp (j := 1) (v := 4) (f := Instr.goto) sX8_doesAll_72 rfl op_167 rfl rfl
theorem dX8_doesAll_76 : decode cX8_doesAll 76 = .ok (.iconst 0, 1) := dc0 (j := 4) sX8_doesAll_72 rfl op_3
theorem dX8_doesAll_77 : decode cX8_doesAll 77 = .ok (.ior, 1) := dc0 (j := 5) sX8_doesAll_72 rfl op_128
theorem dX8_doesAll_78 : decode cX8_doesAll 78 = .ok (.istore 5, 2) := dcA (j := 6) (f := Instr.istore) sX8_doesAll_72 rfl op_54
theorem dX8_doesAll_80 : decode cX8_doesAll 80 = .ok (.iload 6, 2) := dcA (j := 8) (f := Instr.iload) sX8_doesAll_72 rfl op_21
theorem dX8_doesAll_82 : decode cX8_doesAll 82 = .ok (.iload 7, 2) := dcA (j := 10) (f := Instr.iload) sX8_doesAll_72 rfl op_21
theorem dX8_doesAll_84 : decode cX8_doesAll 84 = .ok (.iconst 3, 1) := dc0 (j := 12) sX8_doesAll_72 rfl op_6
theorem dX8_doesAll_85 : decode cX8_doesAll 85 = .ok (.irem, 1) := dc0 (j := 13) sX8_doesAll_72 rfl op_112
theorem dX8_doesAll_86 : decode cX8_doesAll 86 = .ok (.iconst 2, 1) := dc0 (j := 14) sX8_doesAll_72 rfl op_5
theorem dX8_doesAll_87 : decode cX8_doesAll 87 = .ok (.if_icmp .ne 10, 3) := dcTp (j := 15) (v := 10) (f := Instr.if_icmp .ne) sX8_doesAll_72 rfl op_160 rfl rfl
theorem dX8_doesAll_90 : decode cX8_doesAll 90 = .ok (.iconst 1, 1) := dc0 (j := 18) sX8_doesAll_72 rfl op_4
theorem dX8_doesAll_91 : decode cX8_doesAll 91 = .ok (.iload 8, 2) := dcA (j := 19) (f := Instr.iload) sX8_doesAll_72 rfl op_21
theorem dX8_doesAll_93 : decode cX8_doesAll 93 = .ok (.ishl, 1) := dc0 (j := 21) sX8_doesAll_72 rfl op_120
theorem dX8_doesAll_94 : decode cX8_doesAll 94 = .ok (.goto 4, 3) := dcTp (j := 22) (v := 4) (f := Instr.goto) sX8_doesAll_72 rfl op_167 rfl rfl
theorem dX8_doesAll_97 : decode cX8_doesAll 97 = .ok (.iconst 0, 1) := dc0 (j := 25) sX8_doesAll_72 rfl op_3
theorem dX8_doesAll_98 : decode cX8_doesAll 98 = .ok (.ior, 1) := dc0 (j := 26) sX8_doesAll_72 rfl op_128
theorem dX8_doesAll_99 : decode cX8_doesAll 99 = .ok (.istore 6, 2) := dcA (j := 27) (f := Instr.istore) sX8_doesAll_72 rfl op_54
theorem dX8_doesAll_101 : decode cX8_doesAll 101 = .ok (.iload 7, 2) := dcA (j := 29) (f := Instr.iload) sX8_doesAll_72 rfl op_21
theorem dX8_doesAll_103 : decode cX8_doesAll 103 = .ok (.iconst 3, 1) := dc0 (j := 31) sX8_doesAll_72 rfl op_6
theorem dX8_doesAll_104 : decode cX8_doesAll 104 = .ok (.idiv, 1) := dc0 (j := 32) sX8_doesAll_72 rfl op_108
theorem dX8_doesAll_105 : decode cX8_doesAll 105 = .ok (.istore 7, 2) := dcA (j := 33) (f := Instr.istore) sX8_doesAll_72 rfl op_54
theorem sX8_doesAll_107 : sgm cX8_doesAll 107 [132, 8, 1, 167, 255, 194, 42, 31, 182, 1, 12, 42, 21, 5, 21, 6, 2, 3, 182, 0, 184, 87, 42, 182, 0, 206, 42, 180, 0, 13, 3, 46, 160, 0, 5, 4] := by decide +kernel
theorem dX8_doesAll_107 : decode cX8_doesAll 107 = .ok (.iinc 8 1, 3) := dcIp (j := 0) sX8_doesAll_107 rfl op_132 rfl
theorem dX8_doesAll_110 : decode cX8_doesAll 110 = .ok (.goto (-62), 3) := dcTn (j := 3) (v := 62) (f := Instr.goto) sX8_doesAll_107 rfl op_167 rfl rfl rfl
theorem dX8_doesAll_113 : decode cX8_doesAll 113 = .ok (.aload_n 0, 1) := dc0 (j := 6) sX8_doesAll_107 rfl op_42
theorem dX8_doesAll_114 : decode cX8_doesAll 114 = .ok (.lload_n 1, 1) := dc0 (j := 7) sX8_doesAll_107 rfl op_31
theorem dX8_doesAll_115 : decode cX8_doesAll 115 = .ok (.invokevirtual 268, 3) := dcB (j := 8) (f := Instr.invokevirtual) sX8_doesAll_107 rfl op_182 rfl
theorem dX8_doesAll_118 : decode cX8_doesAll 118 = .ok (.aload_n 0, 1) := dc0 (j := 11) sX8_doesAll_107 rfl op_42
theorem dX8_doesAll_119 : decode cX8_doesAll 119 = .ok (.iload 5, 2) := dcA (j := 12) (f := Instr.iload) sX8_doesAll_107 rfl op_21
theorem dX8_doesAll_121 : decode cX8_doesAll 121 = .ok (.iload 6, 2) := dcA (j := 14) (f := Instr.iload) sX8_doesAll_107 rfl op_21
theorem dX8_doesAll_123 : decode cX8_doesAll 123 = .ok (.iconst (-1), 1) := dc0 (j := 16) sX8_doesAll_107 rfl op_2
theorem dX8_doesAll_124 : decode cX8_doesAll 124 = .ok (.iconst 0, 1) := dc0 (j := 17) sX8_doesAll_107 rfl op_3
theorem dX8_doesAll_125 : decode cX8_doesAll 125 = .ok (.invokevirtual 184, 3) := dcB (j := 18) (f := Instr.invokevirtual) sX8_doesAll_107 rfl op_182 rfl
theorem dX8_doesAll_128 : decode cX8_doesAll 128 = .ok (.pop, 1) := dc0 (j := 21) sX8_doesAll_107 rfl op_87
theorem dX8_doesAll_129 : decode cX8_doesAll 129 = .ok (.aload_n 0, 1) := dc0 (j := 22) sX8_doesAll_107 rfl op_42
theorem dX8_doesAll_130 : decode cX8_doesAll 130 = .ok (.invokevirtual 206, 3) := dcB (j := 23) (f := Instr.invokevirtual) sX8_doesAll_107 rfl op_182 rfl
theorem dX8_doesAll_133 : decode cX8_doesAll 133 = .ok (.aload_n 0, 1) := dc0 (j := 26) sX8_doesAll_107 rfl op_42
theorem dX8_doesAll_134 : decode cX8_doesAll 134 = .ok (.getfield 13, 3) := dcB (j := 27) (f := Instr.getfield) sX8_doesAll_107 rfl op_180 rfl
theorem dX8_doesAll_137 : decode cX8_doesAll 137 = .ok (.iconst 0, 1) := dc0 (j := 30) sX8_doesAll_107 rfl op_3
theorem dX8_doesAll_138 : decode cX8_doesAll 138 = .ok (.iaload, 1) := dc0 (j := 31) sX8_doesAll_107 rfl op_46
theorem dX8_doesAll_139 : decode cX8_doesAll 139 = .ok (.if_icmp .ne 5, 3) := dcTp (j := 32) (v := 5) (f := Instr.if_icmp .ne) sX8_doesAll_107 rfl op_160 rfl rfl
theorem dX8_doesAll_142 : decode cX8_doesAll 142 = .ok (.iconst 1, 1) := dc0 (j := 35) sX8_doesAll_107 rfl op_4
theorem sX8_doesAll_143 : sgm cX8_doesAll 143 [172, 42, 42, 182, 1, 16, 182, 1, 20, 132, 4, 1, 167, 255, 130, 3, 172] := by decide +kernel
theorem dX8_doesAll_143 : decode cX8_doesAll 143 = .ok (.ireturn, 1) := dc0 (j := 0) sX8_doesAll_143 rfl op_172
theorem dX8_doesAll_144 : decode cX8_doesAll 144 = .ok (.aload_n 0, 1) := dc0 (j := 1) sX8_doesAll_143 rfl op_42
theorem dX8_doesAll_145 : decode cX8_doesAll 145 = .ok (.aload_n 0, 1) := dc0 (j := 2) sX8_doesAll_143 rfl op_42
theorem dX8_doesAll_146 : decode cX8_doesAll 146 = .ok (.invokevirtual 272, 3) := dcB (j := 3) (f := Instr.invokevirtual) sX8_doesAll_143 rfl op_182 rfl
theorem dX8_doesAll_149 : decode cX8_doesAll 149 = .ok (.invokevirtual 276, 3) := dcB (j := 6) (f := Instr.invokevirtual) sX8_doesAll_143 rfl op_182 rfl
theorem dX8_doesAll_152 : decode cX8_doesAll 152 = .ok (.iinc 4 1, 3) := dcIp (j := 9) sX8_doesAll_143 rfl op_132 rfl
theorem dX8_doesAll_155 : decode cX8_doesAll 155 = .ok (.goto (-126), 3) := dcTn (j := 12) (v := 126) (f := Instr.goto) sX8_doesAll_143 rfl op_167 rfl rfl rfl
theorem dX8_doesAll_158 : decode cX8_doesAll 158 = .ok (.iconst 0, 1) := dc0 (j := 15) sX8_doesAll_143 rfl op_3
theorem dX8_doesAll_159 : decode cX8_doesAll 159 = .ok (.ireturn, 1) := dc0 (j := 16) sX8_doesAll_143 rfl op_172
theorem sX8_soonest_0 : sgm cX8_soonest 0 [42, 3, 181, 0, 1, 42, 180, 0, 13, 3, 46, 6, 164, 0, 6, 16, 252, 172, 42, 182, 0, 206, 42, 180, 0, 13, 3, 46, 160, 0, 5, 3, 172, 42] := by decide +kernel
theorem dX8_soonest_0 : decode cX8_soonest 0 = .ok (.aload_n 0, 1) := dc0 (j := 0) sX8_soonest_0 rfl op_42
theorem dX8_soonest_1 : decode cX8_soonest 1 = .ok (.iconst 0, 1) := dc0 (j := 1) sX8_soonest_0 rfl op_3
theorem dX8_soonest_2 : decode cX8_soonest 2 = .ok (.putfield 1, 3) := dcB (j := 2) (f := Instr.putfield) sX8_soonest_0 rfl op_181 rfl
theorem dX8_soonest_5 : decode cX8_soonest 5 = .ok (.aload_n 0, 1) := dc0 (j := 5) sX8_soonest_0 rfl op_42
theorem dX8_soonest_6 : decode cX8_soonest 6 = .ok (.getfield 13, 3) := dcB (j := 6) (f := Instr.getfield) sX8_soonest_0 rfl op_180 rfl
theorem dX8_soonest_9 : decode cX8_soonest 9 = .ok (.iconst 0, 1) := dc0 (j := 9) sX8_soonest_0 rfl op_3
theorem dX8_soonest_10 : decode cX8_soonest 10 = .ok (.iaload, 1) := dc0 (j := 10) sX8_soonest_0 rfl op_46
theorem dX8_soonest_11 : decode cX8_soonest 11 = .ok (.iconst 3, 1) := dc0 (j := 11) sX8_soonest_0 rfl op_6
theorem dX8_soonest_12 : decode cX8_soonest 12 = .ok (.if_icmp .le 6, 3) := dcTp (j := 12) (v := 6) (f := Instr.if_icmp .le) sX8_soonest_0 rfl op_164 rfl rfl
theorem dX8_soonest_15 : decode cX8_soonest 15 = .ok (.bipush (-4), 2) := dcSn (j := 15) (v := 4) (f := Instr.bipush) sX8_soonest_0 rfl op_16 rfl rfl rfl
theorem dX8_soonest_17 : decode cX8_soonest 17 = .ok (.ireturn, 1) := dc0 (j := 17) sX8_soonest_0 rfl op_172
theorem dX8_soonest_18 : decode cX8_soonest 18 = .ok (.aload_n 0, 1) := dc0 (j := 18) sX8_soonest_0 rfl op_42
theorem dX8_soonest_19 : decode cX8_soonest 19 = .ok (.invokevirtual 206, 3) := dcB (j := 19) (f := Instr.invokevirtual) sX8_soonest_0 rfl op_182 rfl
theorem dX8_soonest_22 : decode cX8_soonest 22 = .ok (.aload_n 0, 1) := dc0 (j := 22) sX8_soonest_0 rfl op_42
theorem dX8_soonest_23 : decode cX8_soonest 23 = .ok (.getfield 13, 3) := dcB (j := 23) (f := Instr.getfield) sX8_soonest_0 rfl op_180 rfl
theorem dX8_soonest_26 : decode cX8_soonest 26 = .ok (.iconst 0, 1) := dc0 (j := 26) sX8_soonest_0 rfl op_3
theorem dX8_soonest_27 : decode cX8_soonest 27 = .ok (.iaload, 1) := dc0 (j := 27) sX8_soonest_0 rfl op_46
theorem dX8_soonest_28 : decode cX8_soonest 28 = .ok (.if_icmp .ne 5, 3) := dcTp (j := 28) (v := 5) (f := Instr.if_icmp .ne) sX8_soonest_0 rfl op_160 rfl rfl
theorem dX8_soonest_31 : decode cX8_soonest 31 = .ok (.iconst 0, 1) := dc0 (j := 31) sX8_soonest_0 rfl op_3
theorem dX8_soonest_32 : decode cX8_soonest 32 = .ok (.ireturn, 1) := dc0 (j := 32) sX8_soonest_0 rfl op_172
theorem dX8_soonest_33 : decode cX8_soonest 33 = .ok (.aload_n 0, 1) := dc0 (j := 33) sX8_soonest_0 rfl op_42
theorem sX8_soonest_34 : sgm cX8_soonest 34 [182, 0, 200, 3, 60, 27, 17, 32, 0, 162, 0, 16, 42, 180, 0, 46, 27, 3, 79, 132, 1, 1, 167, 255, 239, 42, 3, 181, 1, 9, 3, 60, 27, 42] := by decide +kernel
theorem dX8_soonest_34 : decode cX8_soonest 34 = .ok (.invokevirtual 200, 3) := dcB (j := 0) (f := Instr.invokevirtual) sX8_soonest_34 rfl op_182 rfl
theorem dX8_soonest_37 : decode cX8_soonest 37 = .ok (.iconst 0, 1) := dc0 (j := 3) sX8_soonest_34 rfl op_3
theorem dX8_soonest_38 : decode cX8_soonest 38 = .ok (.istore_n 1, 1) := dc0 (j := 4) sX8_soonest_34 rfl op_60
theorem dX8_soonest_39 : decode cX8_soonest 39 = .ok (.iload_n 1, 1) := dc0 (j := 5) sX8_soonest_34 rfl op_27
theorem dX8_soonest_40 : decode cX8_soonest 40 = .ok (.sipush 8192, 3) := dcTp (j := 6) (v := 8192) (f := Instr.sipush) sX8_soonest_34 rfl op_17 rfl rfl
theorem dX8_soonest_43 : decode cX8_soonest 43 = .ok (.if_icmp .ge 16, 3) := dcTp (j := 9) (v := 16) (f := Instr.if_icmp .ge) sX8_soonest_34 rfl op_162 rfl rfl
theorem dX8_soonest_46 : decode cX8_soonest 46 = .ok (.aload_n 0, 1) := dc0 (j := 12) sX8_soonest_34 rfl op_42
theorem dX8_soonest_47 : decode cX8_soonest 47 = .ok (.getfield 46, 3) := dcB (j := 13) (f := Instr.getfield) sX8_soonest_34 rfl op_180 rfl
theorem dX8_soonest_50 : decode cX8_soonest 50 = .ok (.iload_n 1, 1) := dc0 (j := 16) sX8_soonest_34 rfl op_27
theorem dX8_soonest_51 : decode cX8_soonest 51 = .ok (.iconst 0, 1) := dc0 (j := 17) sX8_soonest_34 rfl op_3
theorem dX8_soonest_52 : decode cX8_soonest 52 = .ok (.iastore, 1) := dc0 (j := 18) sX8_soonest_34 rfl op_79
theorem dX8_soonest_53 : decode cX8_soonest 53 = .ok (.iinc 1 1, 3) := dcIp (j := 19) sX8_soonest_34 rfl op_132 rfl
theorem dX8_soonest_56 : decode cX8_soonest 56 = .ok (.goto (-17), 3) := dcTn (j := 22) (v := 17) (f := Instr.goto) sX8_soonest_34 rfl op_167 rfl rfl rfl
theorem dX8_soonest_59 : decode cX8_soonest 59 = .ok (.aload_n 0, 1) := dc0 (j := 25) sX8_soonest_34 rfl op_42
theorem dX8_soonest_60 : decode cX8_soonest 60 = .ok (.iconst 0, 1) := dc0 (j := 26) sX8_soonest_34 rfl op_3
theorem dX8_soonest_61 : decode cX8_soonest 61 = .ok (.putfield 265, 3) := dcB (j := 27) (f := Instr.putfield) sX8_soonest_34 rfl op_181 rfl
theorem dX8_soonest_64 : decode cX8_soonest 64 = .ok (.iconst 0, 1) := dc0 (j := 30) sX8_soonest_34 rfl op_3
theorem dX8_soonest_65 : decode cX8_soonest 65 = .ok (.istore_n 1, 1) := dc0 (j := 31) sX8_soonest_34 rfl op_60
theorem dX8_soonest_66 : decode cX8_soonest 66 = .ok (.iload_n 1, 1) := dc0 (j := 32) sX8_soonest_34 rfl op_27
theorem dX8_soonest_67 : decode cX8_soonest 67 = .ok (.aload_n 0, 1) := dc0 (j := 33) sX8_soonest_34 rfl op_42
theorem sX8_soonest_68 : sgm cX8_soonest 68 [180, 0, 13, 3, 46, 162, 0, 47, 42, 180, 0, 13, 16, 64, 27, 96, 42, 27, 182, 0, 153, 153, 0, 15, 42, 180, 0, 13, 16, 54, 27, 96, 46, 167, 0, 12] := by decide +kernel
theorem dX8_soonest_68 : decode cX8_soonest 68 = .ok (.getfield 13, 3) := dcB (j := 0) (f := Instr.getfield) sX8_soonest_68 rfl op_180 rfl
theorem dX8_soonest_71 : decode cX8_soonest 71 = .ok (.iconst 0, 1) := dc0 (j := 3) sX8_soonest_68 rfl op_3
theorem dX8_soonest_72 : decode cX8_soonest 72 = .ok (.iaload, 1) := dc0 (j := 4) sX8_soonest_68 rfl op_46
theorem dX8_soonest_73 : decode cX8_soonest 73 = .ok (.if_icmp .ge 47, 3) := dcTp (j := 5) (v := 47) (f := Instr.if_icmp .ge) sX8_soonest_68 rfl op_162 rfl rfl
theorem dX8_soonest_76 : decode cX8_soonest 76 = .ok (.aload_n 0, 1) := dc0 (j := 8) sX8_soonest_68 rfl op_42
theorem dX8_soonest_77 : decode cX8_soonest 77 = .ok (.getfield 13, 3) := dcB (j := 9) (f := Instr.getfield) sX8_soonest_68 rfl op_180 rfl
theorem dX8_soonest_80 : decode cX8_soonest 80 = .ok (.bipush 64, 2) := dcSp (j := 12) (a := 64) (f := Instr.bipush) sX8_soonest_68 rfl op_16 rfl
theorem dX8_soonest_82 : decode cX8_soonest 82 = .ok (.iload_n 1, 1) := dc0 (j := 14) sX8_soonest_68 rfl op_27
theorem dX8_soonest_83 : decode cX8_soonest 83 = .ok (.iadd, 1) := dc0 (j := 15) sX8_soonest_68 rfl op_96
theorem dX8_soonest_84 : decode cX8_soonest 84 = .ok (.aload_n 0, 1) := dc0 (j := 16) sX8_soonest_68 rfl op_42
theorem dX8_soonest_85 : decode cX8_soonest 85 = .ok (.iload_n 1, 1) := dc0 (j := 17) sX8_soonest_68 rfl op_27
theorem dX8_soonest_86 : decode cX8_soonest 86 = .ok (.invokevirtual 153, 3) := dcB (j := 18) (f := Instr.invokevirtual) sX8_soonest_68 rfl op_182 rfl
theorem dX8_soonest_89 : decode cX8_soonest 89 = .ok (.ifCond .eq 15, 3) := dcTp (j := 21) (v := 15) (f := Instr.ifCond .eq) sX8_soonest_68 rfl op_153 rfl rfl
theorem dX8_soonest_92 : decode cX8_soonest 92 = .ok (.aload_n 0, 1) := dc0 (j := 24) sX8_soonest_68 rfl op_42
theorem dX8_soonest_93 : decode cX8_soonest 93 = .ok (.getfield 13, 3) := dcB (j := 25) (f := Instr.getfield) sX8_soonest_68 rfl op_180 rfl
theorem dX8_soonest_96 : decode cX8_soonest 96 = .ok (.bipush 54, 2) := dcSp (j := 28) (a := 54) (f := Instr.bipush) sX8_soonest_68 rfl op_16 rfl
theorem dX8_soonest_98 : decode cX8_soonest 98 = .ok (.iload_n 1, 1) := dc0 (j := 30) sX8_soonest_68 rfl op_27
theorem dX8_soonest_99 : decode cX8_soonest 99 = .ok (.iadd, 1) := dc0 (j := 31) sX8_soonest_68 rfl op_96
theorem dX8_soonest_100 : decode cX8_soonest 100 = .ok (.iaload, 1) := dc0 (j := 32) sX8_soonest_68 rfl op_46
theorem dX8_soonest_101 : decode cX8_soonest 101 = .ok (.goto 12, 3) := dcTp (j := 33) (v := 12) (f := Instr.goto) sX8_soonest_68 rfl op_167 rfl rfl
theorem sX8_soonest_104 : sgm cX8_soonest 104 [42, 180, 0, 13, 16, 64, 27, 96, 46, 79, 132, 1, 1, 167, 255, 205, 42, 42, 182, 1, 16, 182, 1, 20, 3, 60, 2, 61, 4, 62, 28, 2, 160, 0, 81, 27] := by decide +kernel
theorem dX8_soonest_104 : decode cX8_soonest 104 = .ok (.aload_n 0, 1) := dc0 (j := 0) sX8_soonest_104 rfl op_42
theorem dX8_soonest_105 : decode cX8_soonest 105 = .ok (.getfield 13, 3) := dcB (j := 1) (f := Instr.getfield) sX8_soonest_104 rfl op_180 rfl
theorem dX8_soonest_108 : decode cX8_soonest 108 = .ok (.bipush 64, 2) := dcSp (j := 4) (a := 64) (f := Instr.bipush) sX8_soonest_104 rfl op_16 rfl
theorem dX8_soonest_110 : decode cX8_soonest 110 = .ok (.iload_n 1, 1) := dc0 (j := 6) sX8_soonest_104 rfl op_27
theorem dX8_soonest_111 : decode cX8_soonest 111 = .ok (.iadd, 1) := dc0 (j := 7) sX8_soonest_104 rfl op_96
theorem dX8_soonest_112 : decode cX8_soonest 112 = .ok (.iaload, 1) := dc0 (j := 8) sX8_soonest_104 rfl op_46
theorem dX8_soonest_113 : decode cX8_soonest 113 = .ok (.iastore, 1) := dc0 (j := 9) sX8_soonest_104 rfl op_79
theorem dX8_soonest_114 : decode cX8_soonest 114 = .ok (.iinc 1 1, 3) := dcIp (j := 10) sX8_soonest_104 rfl op_132 rfl
theorem dX8_soonest_117 : decode cX8_soonest 117 = .ok (.goto (-51), 3) := dcTn (j := 13) (v := 51) (f := Instr.goto) sX8_soonest_104 rfl op_167 rfl rfl rfl
theorem dX8_soonest_120 : decode cX8_soonest 120 = .ok (.aload_n 0, 1) := dc0 (j := 16) sX8_soonest_104 rfl op_42
theorem dX8_soonest_121 : decode cX8_soonest 121 = .ok (.aload_n 0, 1) := dc0 (j := 17) sX8_soonest_104 rfl op_42
theorem dX8_soonest_122 : decode cX8_soonest 122 = .ok (.invokevirtual 272, 3) := dcB (j := 18) (f := Instr.invokevirtual) sX8_soonest_104 rfl op_182 rfl
theorem dX8_soonest_125 : decode cX8_soonest 125 = .ok (.invokevirtual 276, 3) := dcB (j := 21) (f := Instr.invokevirtual) sX8_soonest_104 rfl op_182 rfl
theorem dX8_soonest_128 : decode cX8_soonest 128 = .ok (.iconst 0, 1) := dc0 (j := 24) sX8_soonest_104 rfl op_3
theorem dX8_soonest_129 : decode cX8_soonest 129 = .ok (.istore_n 1, 1) := dc0 (j := 25) sX8_soonest_104 rfl op_60
theorem dX8_soonest_130 : decode cX8_soonest 130 = .ok (.iconst (-1), 1) := dc0 (j := 26) sX8_soonest_104 rfl op_2
theorem dX8_soonest_131 : decode cX8_soonest 131 = .ok (.istore_n 2, 1) := dc0 (j := 27) sX8_soonest_104 rfl op_61
theorem dX8_soonest_132 : decode cX8_soonest 132 = .ok (.iconst 1, 1) := dc0 (j := 28) sX8_soonest_104 rfl op_4
theorem dX8_soonest_133 : decode cX8_soonest 133 = .ok (.istore_n 3, 1) := dc0 (j := 29) sX8_soonest_104 rfl op_62
theorem dX8_soonest_134 : decode cX8_soonest 134 = .ok (.iload_n 2, 1) := dc0 (j := 30) sX8_soonest_104 rfl op_28
theorem dX8_soonest_135 : decode cX8_soonest 135 = .ok (.iconst (-1), 1) := dc0 (j := 31) sX8_soonest_104 rfl op_2
theorem dX8_soonest_136 : decode cX8_soonest 136 = .ok (.if_icmp .ne 81, 3) := dcTp (j := 32) (v := 81) (f := Instr.if_icmp .ne) sX8_soonest_104 rfl op_160 rfl rfl
theorem dX8_soonest_139 : decode cX8_soonest 139 = .ok (.iload_n 1, 1) := dc0 (j := 35) sX8_soonest_104 rfl op_27
theorem sX8_soonest_140 : sgm cX8_soonest 140 [42, 180, 1, 9, 162, 0, 73, 42, 180, 1, 9, 54, 4, 27, 54, 5, 21, 5, 21, 4, 162, 0, 30, 28, 2, 160, 0, 25, 42, 42, 180, 0, 43, 21, 5, 47] := by decide +kernel
theorem dX8_soonest_140 : decode cX8_soonest 140 = .ok (.aload_n 0, 1) := dc0 (j := 0) sX8_soonest_140 rfl op_42
theorem dX8_soonest_141 : decode cX8_soonest 141 = .ok (.getfield 265, 3) := dcB (j := 1) (f := Instr.getfield) sX8_soonest_140 rfl op_180 rfl
theorem dX8_soonest_144 : decode cX8_soonest 144 = .ok (.if_icmp .ge 73, 3) := dcTp (j := 4) (v := 73) (f := Instr.if_icmp .ge) sX8_soonest_140 rfl op_162 rfl rfl
theorem dX8_soonest_147 : decode cX8_soonest 147 = .ok (.aload_n 0, 1) := dc0 (j := 7) sX8_soonest_140 rfl op_42
theorem dX8_soonest_148 : decode cX8_soonest 148 = .ok (.getfield 265, 3) := dcB (j := 8) (f := Instr.getfield) sX8_soonest_140 rfl op_180 rfl
theorem dX8_soonest_151 : decode cX8_soonest 151 = .ok (.istore 4, 2) := dcA (j := 11) (f := Instr.istore) sX8_soonest_140 rfl op_54
theorem dX8_soonest_153 : decode cX8_soonest 153 = .ok (.iload_n 1, 1) := dc0 (j := 13) sX8_soonest_140 rfl op_27
theorem dX8_soonest_154 : decode cX8_soonest 154 = .ok (.istore 5, 2) := dcA (j := 14) (f := Instr.istore) sX8_soonest_140 rfl op_54
theorem dX8_soonest_156 : decode cX8_soonest 156 = .ok (.iload 5, 2) := dcA (j := 16) (f := Instr.iload) sX8_soonest_140 rfl op_21
theorem dX8_soonest_158 : decode cX8_soonest 158 = .ok (.iload 4, 2) := dcA (j := 18) (f := Instr.iload) sX8_soonest_140 rfl op_21
theorem dX8_soonest_160 : decode cX8_soonest 160 = .ok (.if_icmp .ge 30, 3) := dcTp (j := 20) (v := 30) (f := Instr.if_icmp .ge) sX8_soonest_140 rfl op_162 rfl rfl
theorem dX8_soonest_163 : decode cX8_soonest 163 = .ok (.iload_n 2, 1) := dc0 (j := 23) sX8_soonest_140 rfl op_28
theorem dX8_soonest_164 : decode cX8_soonest 164 = .ok (.iconst (-1), 1) := dc0 (j := 24) sX8_soonest_140 rfl op_2
theorem dX8_soonest_165 : decode cX8_soonest 165 = .ok (.if_icmp .ne 25, 3) := dcTp (j := 25) (v := 25) (f := Instr.if_icmp .ne) sX8_soonest_140 rfl op_160 rfl rfl
theorem dX8_soonest_168 : decode cX8_soonest 168 = .ok (.aload_n 0, 1) := dc0 (j := 28) sX8_soonest_140 rfl op_42
theorem dX8_soonest_169 : decode cX8_soonest 169 = .ok (.aload_n 0, 1) := dc0 (j := 29) sX8_soonest_140 rfl op_42
theorem dX8_soonest_170 : decode cX8_soonest 170 = .ok (.getfield 43, 3) := dcB (j := 30) (f := Instr.getfield) sX8_soonest_140 rfl op_180 rfl
theorem dX8_soonest_173 : decode cX8_soonest 173 = .ok (.iload 5, 2) := dcA (j := 33) (f := Instr.iload) sX8_soonest_140 rfl op_21
theorem dX8_soonest_175 : decode cX8_soonest 175 = .ok (.laload, 1) := dc0 (j := 35) sX8_soonest_140 rfl op_47
theorem sX8_soonest_176 : sgm cX8_soonest 176 [182, 1, 23, 153, 0, 5, 29, 61, 132, 5, 1, 167, 255, 225, 28, 2, 160, 0, 16, 42, 180, 1, 9, 17, 11, 184, 164, 0, 6, 16, 252, 61, 21, 4, 60] := by decide +kernel
theorem dX8_soonest_176 : decode cX8_soonest 176 = .ok (.invokevirtual 279, 3) := dcB (j := 0) (f := Instr.invokevirtual) sX8_soonest_176 rfl op_182 rfl
theorem dX8_soonest_179 : decode cX8_soonest 179 = .ok (.ifCond .eq 5, 3) := dcTp (j := 3) (v := 5) (f := Instr.ifCond .eq) sX8_soonest_176 rfl op_153 rfl rfl
theorem dX8_soonest_182 : decode cX8_soonest 182 = .ok (.iload_n 3, 1) := dc0 (j := 6) sX8_soonest_176 rfl op_29
theorem dX8_soonest_183 : decode cX8_soonest 183 = .ok (.istore_n 2, 1) := dc0 (j := 7) sX8_soonest_176 rfl op_61
theorem dX8_soonest_184 : decode cX8_soonest 184 = .ok (.iinc 5 1, 3) := dcIp (j := 8) sX8_soonest_176 rfl op_132 rfl
theorem dX8_soonest_187 : decode cX8_soonest 187 = .ok (.goto (-31), 3) := dcTn (j := 11) (v := 31) (f := Instr.goto) sX8_soonest_176 rfl op_167 rfl rfl rfl
theorem dX8_soonest_190 : decode cX8_soonest 190 = .ok (.iload_n 2, 1) := dc0 (j := 14) sX8_soonest_176 rfl op_28
theorem dX8_soonest_191 : decode cX8_soonest 191 = .ok (.iconst (-1), 1) := dc0 (j := 15) sX8_soonest_176 rfl op_2
theorem dX8_soonest_192 : decode cX8_soonest 192 = .ok (.if_icmp .ne 16, 3) := dcTp (j := 16) (v := 16) (f := Instr.if_icmp .ne) sX8_soonest_176 rfl op_160 rfl rfl
theorem dX8_soonest_195 : decode cX8_soonest 195 = .ok (.aload_n 0, 1) := dc0 (j := 19) sX8_soonest_176 rfl op_42
theorem dX8_soonest_196 : decode cX8_soonest 196 = .ok (.getfield 265, 3) := dcB (j := 20) (f := Instr.getfield) sX8_soonest_176 rfl op_180 rfl
theorem dX8_soonest_199 : decode cX8_soonest 199 = .ok (.sipush 3000, 3) := dcTp (j := 23) (v := 3000) (f := Instr.sipush) sX8_soonest_176 rfl op_17 rfl rfl
theorem dX8_soonest_202 : decode cX8_soonest 202 = .ok (.if_icmp .le 6, 3) := dcTp (j := 26) (v := 6) (f := Instr.if_icmp .le) sX8_soonest_176 rfl op_164 rfl rfl
theorem dX8_soonest_205 : decode cX8_soonest 205 = .ok (.bipush (-4), 2) := dcSn (j := 29) (v := 4) (f := Instr.bipush) sX8_soonest_176 rfl op_16 rfl rfl rfl
theorem dX8_soonest_207 : decode cX8_soonest 207 = .ok (.istore_n 2, 1) := dc0 (j := 31) sX8_soonest_176 rfl op_61
