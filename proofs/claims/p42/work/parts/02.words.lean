def gT : List Cond := lw_tbl.filter goodWord
theorem gT_in {w : Cond} (h : w ∈ lw_tbl) (hg : goodWord w = true) : w ∈ gT := List.mem_filter.mpr ⟨h, hg⟩
theorem gT_good (w : Cond) (h : w ∈ gT) : goodWord w = true := (List.mem_filter.mp h).2
theorem gT_tbl (w : Cond) (h : w ∈ gT) : w ∈ lw_tbl := (List.mem_filter.mp h).1
theorem gT0 {w : Cond} {i : Nat} (h : (k2_sels lw_privs)[i]? = some w) (hg : goodWord w = true) : w ∈ gT := gT_in (List.mem_append_left _ (List.mem_of_getElem? h)) hg
theorem tT1 {w : Cond} {i : Nat} (h : tables_1_1[i]? = some w) : w ∈ lw_tbl := List.mem_append_right _ (List.mem_append_left _ (List.mem_of_getElem? h))
theorem gT1 {w : Cond} {i : Nat} (h : tables_1_1[i]? = some w) (hg : goodWord w = true) : w ∈ gT := gT_in (tT1 h) hg
theorem tT2 {w : Cond} {i : Nat} (h : tables_1_2[i]? = some w) : w ∈ lw_tbl := List.mem_append_right _ (List.mem_append_right _ (List.mem_append_left _ (List.mem_of_getElem? h)))
theorem gT2 {w : Cond} {i : Nat} (h : tables_1_2[i]? = some w) (hg : goodWord w = true) : w ∈ gT := gT_in (tT2 h) hg
theorem tT3 {w : Cond} {i : Nat} (h : tables_1_3[i]? = some w) : w ∈ lw_tbl := List.mem_append_right _ (List.mem_append_right _ (List.mem_append_right _ (List.mem_append_left _ (List.mem_of_getElem? h))))
theorem gT3 {w : Cond} {i : Nat} (h : tables_1_3[i]? = some w) (hg : goodWord w = true) : w ∈ gT := gT_in (tT3 h) hg
theorem tT4 {w : Cond} {i : Nat} (h : tables_1_4[i]? = some w) : w ∈ lw_tbl := List.mem_append_right _ (List.mem_append_right _ (List.mem_append_right _ (List.mem_append_right _ (List.mem_append_left _ (List.mem_of_getElem? h)))))
theorem gT4 {w : Cond} {i : Nat} (h : tables_1_4[i]? = some w) (hg : goodWord w = true) : w ∈ gT := gT_in (tT4 h) hg
theorem tT5 {w : Cond} {i : Nat} (h : tables_1_5[i]? = some w) : w ∈ lw_tbl := List.mem_append_right _ (List.mem_append_right _ (List.mem_append_right _ (List.mem_append_right _ (List.mem_append_right _ (List.mem_append_left _ (List.mem_of_getElem? h))))))
theorem gT5 {w : Cond} {i : Nat} (h : tables_1_5[i]? = some w) (hg : goodWord w = true) : w ∈ gT := gT_in (tT5 h) hg
theorem tT6 {w : Cond} {i : Nat} (h : tables_1_6[i]? = some w) : w ∈ lw_tbl := List.mem_append_right _ (List.mem_append_right _ (List.mem_append_right _ (List.mem_append_right _ (List.mem_append_right _ (List.mem_append_right _ (List.mem_of_getElem? h))))))
theorem gT6 {w : Cond} {i : Nat} (h : tables_1_6[i]? = some w) (hg : goodWord w = true) : w ∈ gT := gT_in (tT6 h) hg
theorem w_1 : Cond.initialized RL ∈ gT := gT1 (i := 0) rfl rfl
theorem w_2 : Cond.initialized RX7 ∈ gT := gT1 (i := 1) rfl rfl
theorem w_3 : Cond.initialized RX5 ∈ gT := gT1 (i := 2) rfl rfl
theorem w_4 : Cond.initialized RX2 ∈ gT := gT1 (i := 3) rfl rfl
theorem w_5 : Cond.initialized RX6 ∈ gT := gT1 (i := 4) rfl rfl
theorem w_6 : Cond.initialized RX3 ∈ gT := gT1 (i := 5) rfl rfl
theorem w_7 : Cond.initialized RX0 ∈ gT := gT1 (i := 6) rfl rfl
theorem w_8 : Cond.initialized RX1 ∈ gT := gT1 (i := 7) rfl rfl
theorem w_9 : Cond.initialized RX8 ∈ gT := gT1 (i := 8) rfl rfl
theorem w_10 : Cond.initialized RJ9 ∈ gT := gT1 (i := 9) rfl rfl
theorem w_11 : Cond.initialized RJ7 ∈ gT := gT1 (i := 10) rfl rfl
theorem w_12 : Cond.initialized RJ0 ∈ gT := gT1 (i := 11) rfl rfl
theorem w_13 : Cond.initialized RJ1 ∈ gT := gT1 (i := 12) rfl rfl
theorem w_14 : Cond.initialized RJ3 ∈ gT := gT1 (i := 13) rfl rfl
theorem w_15 : Cond.initialized RJ2 ∈ gT := gT1 (i := 14) rfl rfl
theorem w_16 : Cond.initialized RJ6 ∈ gT := gT1 (i := 15) rfl rfl
theorem w_17 : Cond.initialized RJ10 ∈ gT := gT1 (i := 16) rfl rfl
theorem w_18 : Cond.initialized RX4 ∈ gT := gT1 (i := 17) rfl rfl
theorem w_19 : Cond.classLink RL 7 RX7 ∈ gT := gT1 (i := 18) rfl rfl
theorem w_20 : Cond.instantiable RX7 10 ∈ gT := gT1 (i := 19) rfl rfl
theorem w_21 : Cond.methodLink RL 9 yX7_init ∈ gT := gT1 (i := 20) rfl rfl
theorem w_22 : Cond.instanceMethod yX7_init ∈ gT := gT1 (i := 21) rfl rfl
theorem w_23 : Cond.code yX7_init cX7_init 2 none ∈ gT := gT1 (i := 22) rfl rfl
theorem w_24 : Cond.methodLink RX7 1 objectInit ∈ gT := gT1 (i := 23) rfl rfl
theorem w_25 : Cond.instanceMethod objectInit ∈ gT := gT1 (i := 24) rfl rfl
theorem w_26 : Cond.code objectInit object_method_1_code 1 none ∈ gT := gT1 (i := 25) rfl rfl
theorem w_27 : Cond.classLink RX7 7 RX5 ∈ gT := gT1 (i := 26) rfl rfl
theorem w_28 : Cond.instantiable RX5 15 ∈ gT := gT1 (i := 27) rfl rfl
theorem t_29 : Cond.methodLinkNest RX7 9 yX5_init "BlownNext" ∈ lw_tbl := tT1 (i := 28) rfl
theorem w_30 : Cond.instanceMethod yX5_init ∈ gT := gT1 (i := 29) rfl rfl
theorem w_31 : Cond.code yX5_init cX5_init 1 none ∈ gT := gT1 (i := 30) rfl rfl
theorem w_32 : Cond.methodLink RX5 3 objectInit ∈ gT := gT1 (i := 31) rfl rfl
theorem w_33 : Cond.fieldLink RX5 46 "BlownNext$Street" "size" "I" ∈ gT := gT1 (i := 32) rfl rfl
theorem w_34 : Cond.fieldLink RX4 62 "BlownNext$Street" "size" "I" ∈ gT := gT1 (i := 33) rfl rfl
theorem w_35 : Cond.fieldLink RX0 32 "BlownNext$Street" "size" "I" ∈ gT := gT1 (i := 34) rfl rfl
theorem w_36 : Cond.fieldLink RX2 94 "BlownNext$Street" "size" "I" ∈ gT := gT1 (i := 35) rfl rfl
theorem w_37 : Cond.fieldLink RX3 47 "BlownNext$Street" "size" "I" ∈ gT := gT1 (i := 36) rfl rfl
theorem w_38 : Cond.fieldLink RX7 184 "BlownNext$Street" "size" "I" ∈ gT := gT1 (i := 37) rfl rfl
theorem w_39 : Cond.fieldLink RX5 49 "BlownNext$Street" "minute" "I" ∈ gT := gT1 (i := 38) rfl rfl
theorem w_40 : Cond.fieldLink RX6 44 "BlownNext$Street" "minute" "I" ∈ gT := gT1 (i := 39) rfl rfl
theorem w_41 : Cond.fieldLink RX7 137 "BlownNext$Street" "minute" "I" ∈ gT := gT1 (i := 40) rfl rfl
theorem w_42 : Cond.fieldLink RX5 52 "BlownNext$Street" "lines" "I" ∈ gT := gT1 (i := 41) rfl rfl
theorem w_43 : Cond.fieldLink RX7 85 "BlownNext$Street" "lines" "I" ∈ gT := gT1 (i := 42) rfl rfl
theorem w_44 : Cond.fieldLink RX2 91 "BlownNext$Street" "lines" "I" ∈ gT := gT1 (i := 43) rfl rfl
theorem w_45 : Cond.fieldLink RX5 9 "BlownNext$Street" "loss" "I" ∈ gT := gT1 (i := 44) rfl rfl
theorem w_46 : Cond.fieldLink RX2 78 "BlownNext$Street" "loss" "I" ∈ gT := gT1 (i := 45) rfl rfl
theorem w_47 : Cond.fieldLink RX4 115 "BlownNext$Street" "loss" "I" ∈ gT := gT1 (i := 46) rfl rfl
theorem w_48 : Cond.fieldLink RX7 299 "BlownNext$Street" "loss" "I" ∈ gT := gT1 (i := 47) rfl rfl
theorem w_49 : Cond.fieldLink RX5 55 "BlownNext$Street" "burnings" "I" ∈ gT := gT1 (i := 48) rfl rfl
theorem w_50 : Cond.fieldLink RX7 168 "BlownNext$Street" "burnings" "I" ∈ gT := gT1 (i := 49) rfl rfl
theorem w_51 : Cond.fieldLink RX5 15 "BlownNext$Street" "blast" "[I" ∈ gT := gT1 (i := 50) rfl rfl
theorem w_52 : Cond.fieldLink RX0 51 "BlownNext$Street" "blast" "[I" ∈ gT := gT1 (i := 51) rfl rfl
theorem w_53 : Cond.fieldLink RX2 97 "BlownNext$Street" "blast" "[I" ∈ gT := gT1 (i := 52) rfl rfl
theorem w_54 : Cond.fieldLink RX7 95 "BlownNext$Street" "blast" "[I" ∈ gT := gT1 (i := 53) rfl rfl
theorem w_55 : Cond.fieldLink RX3 80 "BlownNext$Street" "blast" "[I" ∈ gT := gT1 (i := 54) rfl rfl
theorem w_56 : Cond.fieldLink RX5 19 "BlownNext$Street" "cool" "[I" ∈ gT := gT1 (i := 55) rfl rfl
theorem w_57 : Cond.fieldLink RX4 69 "BlownNext$Street" "cool" "[I" ∈ gT := gT1 (i := 56) rfl rfl
theorem w_58 : Cond.fieldLink RX0 54 "BlownNext$Street" "cool" "[I" ∈ gT := gT1 (i := 57) rfl rfl
theorem w_59 : Cond.fieldLink RX2 100 "BlownNext$Street" "cool" "[I" ∈ gT := gT1 (i := 58) rfl rfl
theorem w_60 : Cond.fieldLink RX7 99 "BlownNext$Street" "cool" "[I" ∈ gT := gT1 (i := 59) rfl rfl
theorem w_61 : Cond.fieldLink RX3 71 "BlownNext$Street" "cool" "[I" ∈ gT := gT1 (i := 60) rfl rfl
theorem w_62 : Cond.fieldLink RX5 22 "BlownNext$Street" "heat" "[I" ∈ gT := gT1 (i := 61) rfl rfl
theorem w_63 : Cond.fieldLink RX4 72 "BlownNext$Street" "heat" "[I" ∈ gT := gT1 (i := 62) rfl rfl
theorem w_64 : Cond.fieldLink RX2 108 "BlownNext$Street" "heat" "[I" ∈ gT := gT1 (i := 63) rfl rfl
theorem w_65 : Cond.fieldLink RX7 102 "BlownNext$Street" "heat" "[I" ∈ gT := gT1 (i := 64) rfl rfl
theorem w_66 : Cond.fieldLink RX3 60 "BlownNext$Street" "heat" "[I" ∈ gT := gT1 (i := 65) rfl rfl
theorem w_67 : Cond.fieldLink RX5 25 "BlownNext$Street" "low" "[I" ∈ gT := gT1 (i := 66) rfl rfl
theorem w_68 : Cond.fieldLink RX2 112 "BlownNext$Street" "low" "[I" ∈ gT := gT1 (i := 67) rfl rfl
theorem w_69 : Cond.fieldLink RX7 105 "BlownNext$Street" "low" "[I" ∈ gT := gT1 (i := 68) rfl rfl
theorem w_70 : Cond.fieldLink RX5 28 "BlownNext$Street" "high" "[I" ∈ gT := gT1 (i := 69) rfl rfl
theorem w_71 : Cond.fieldLink RX2 116 "BlownNext$Street" "high" "[I" ∈ gT := gT1 (i := 70) rfl rfl
theorem w_72 : Cond.fieldLink RX7 108 "BlownNext$Street" "high" "[I" ∈ gT := gT1 (i := 71) rfl rfl
theorem w_73 : Cond.fieldLink RX4 112 "BlownNext$Street" "high" "[I" ∈ gT := gT1 (i := 72) rfl rfl
theorem w_74 : Cond.fieldLink RX5 31 "BlownNext$Street" "need" "[I" ∈ gT := gT1 (i := 73) rfl rfl
theorem w_75 : Cond.fieldLink RX4 74 "BlownNext$Street" "need" "[I" ∈ gT := gT1 (i := 74) rfl rfl
theorem w_76 : Cond.fieldLink RX7 111 "BlownNext$Street" "need" "[I" ∈ gT := gT1 (i := 75) rfl rfl
theorem w_77 : Cond.fieldLink RX5 34 "BlownNext$Street" "strokes" "[I" ∈ gT := gT1 (i := 76) rfl rfl
theorem w_78 : Cond.fieldLink RX4 73 "BlownNext$Street" "strokes" "[I" ∈ gT := gT1 (i := 77) rfl rfl
theorem w_79 : Cond.fieldLink RX7 114 "BlownNext$Street" "strokes" "[I" ∈ gT := gT1 (i := 78) rfl rfl
theorem w_80 : Cond.fieldLink RX5 37 "BlownNext$Street" "burnt" "[I" ∈ gT := gT1 (i := 79) rfl rfl
theorem w_81 : Cond.fieldLink RX7 117 "BlownNext$Street" "burnt" "[I" ∈ gT := gT1 (i := 80) rfl rfl
theorem w_82 : Cond.fieldLink RX5 40 "BlownNext$Street" "to" "[I" ∈ gT := gT1 (i := 81) rfl rfl
theorem w_83 : Cond.fieldLink RX2 42 "BlownNext$Street" "to" "[I" ∈ gT := gT1 (i := 82) rfl rfl
theorem w_84 : Cond.fieldLink RX7 120 "BlownNext$Street" "to" "[I" ∈ gT := gT1 (i := 83) rfl rfl
theorem w_85 : Cond.fieldLink RX3 74 "BlownNext$Street" "to" "[I" ∈ gT := gT1 (i := 84) rfl rfl
theorem w_86 : Cond.fieldLink RX5 43 "BlownNext$Street" "change" "[I" ∈ gT := gT1 (i := 85) rfl rfl
theorem w_87 : Cond.lays RX5 "BlownNext$Street" "size" "I" ∈ gT := gT1 (i := 86) rfl rfl
theorem w_89 : Cond.lays RX5 "BlownNext$Street" "minute" "I" ∈ gT := gT1 (i := 88) rfl rfl
theorem w_91 : Cond.lays RX5 "BlownNext$Street" "lines" "I" ∈ gT := gT1 (i := 90) rfl rfl
theorem w_93 : Cond.lays RX5 "BlownNext$Street" "loss" "I" ∈ gT := gT1 (i := 92) rfl rfl
theorem w_95 : Cond.lays RX5 "BlownNext$Street" "burnings" "I" ∈ gT := gT1 (i := 94) rfl rfl
theorem w_97 : Cond.laysFinal RX5 "BlownNext$Street" "blast" "[I" ∈ gT := gT1 (i := 96) rfl rfl
theorem w_99 : Cond.laysFinal RX5 "BlownNext$Street" "cool" "[I" ∈ gT := gT1 (i := 98) rfl rfl
theorem w_101 : Cond.laysFinal RX5 "BlownNext$Street" "heat" "[I" ∈ gT := gT1 (i := 100) rfl rfl
theorem w_103 : Cond.laysFinal RX5 "BlownNext$Street" "low" "[I" ∈ gT := gT1 (i := 102) rfl rfl
theorem w_105 : Cond.laysFinal RX5 "BlownNext$Street" "high" "[I" ∈ gT := gT1 (i := 104) rfl rfl
theorem w_107 : Cond.laysFinal RX5 "BlownNext$Street" "need" "[I" ∈ gT := gT1 (i := 106) rfl rfl
theorem w_109 : Cond.laysFinal RX5 "BlownNext$Street" "strokes" "[I" ∈ gT := gT1 (i := 108) rfl rfl
theorem w_111 : Cond.laysFinal RX5 "BlownNext$Street" "burnt" "[I" ∈ gT := gT1 (i := 110) rfl rfl
theorem w_113 : Cond.laysFinal RX5 "BlownNext$Street" "to" "[I" ∈ gT := gT1 (i := 112) rfl rfl
theorem w_115 : Cond.laysFinal RX5 "BlownNext$Street" "change" "[I" ∈ gT := gT1 (i := 114) rfl rfl
theorem w_118 : Cond.arrayClass .int ∈ gT := gT1 (i := 117) rfl rfl
theorem t_119 : Cond.arrayOver (.object "BlownNext$Street") ∈ lw_tbl := tT1 (i := 118) rfl
theorem w_120 : Cond.classLink RX7 27 RX1 ∈ gT := gT1 (i := 119) rfl rfl
theorem t_121 : Cond.arrayOver (.object "BlownNext$NumberRow") ∈ lw_tbl := tT1 (i := 120) rfl
theorem w_122 : Cond.classLink RX7 33 RX2 ∈ gT := gT1 (i := 121) rfl rfl
theorem w_123 : Cond.instantiable RX2 8 ∈ gT := gT1 (i := 122) rfl rfl
theorem t_124 : Cond.methodLinkNest RX7 35 yX2_init "BlownNext" ∈ lw_tbl := tT1 (i := 123) rfl
theorem w_125 : Cond.instanceMethod yX2_init ∈ gT := gT1 (i := 124) rfl rfl
theorem w_126 : Cond.code yX2_init cX2_init 1 none ∈ gT := gT1 (i := 125) rfl rfl
theorem w_127 : Cond.methodLink RX2 3 objectInit ∈ gT := gT1 (i := 126) rfl rfl
theorem w_128 : Cond.fieldLink RX7 62 "BlownNext$Reader" "fed" "I" ∈ gT := gT1 (i := 127) rfl rfl
theorem w_129 : Cond.fieldLink RX2 19 "BlownNext$Reader" "fed" "I" ∈ gT := gT1 (i := 128) rfl rfl
theorem w_130 : Cond.fieldLink RX2 34 "BlownNext$Reader" "fault" "I" ∈ gT := gT1 (i := 129) rfl rfl
theorem w_131 : Cond.fieldLink RX7 78 "BlownNext$Reader" "fault" "I" ∈ gT := gT1 (i := 130) rfl rfl
theorem w_132 : Cond.fieldLink RX2 9 "BlownNext$Reader" "place" "I" ∈ gT := gT1 (i := 131) rfl rfl
theorem w_133 : Cond.fieldLink RX7 88 "BlownNext$Reader" "place" "I" ∈ gT := gT1 (i := 132) rfl rfl
theorem w_134 : Cond.fieldLink RX2 15 "BlownNext$Reader" "text" "[B" ∈ gT := gT1 (i := 133) rfl rfl
theorem w_135 : Cond.fieldLink RX2 28 "BlownNext$Reader" "end" "I" ∈ gT := gT1 (i := 134) rfl rfl
theorem w_136 : Cond.fieldLink RX2 55 "BlownNext$Reader" "kind" "I" ∈ gT := gT1 (i := 135) rfl rfl
theorem w_137 : Cond.fieldLink RX2 129 "BlownNext$Reader" "from" "I" ∈ gT := gT1 (i := 136) rfl rfl
theorem w_138 : Cond.fieldLink RX2 31 "BlownNext$Reader" "behind" "I" ∈ gT := gT1 (i := 137) rfl rfl
theorem w_139 : Cond.lays RX2 "BlownNext$Reader" "fed" "I" ∈ gT := gT1 (i := 138) rfl rfl
theorem w_141 : Cond.lays RX2 "BlownNext$Reader" "fault" "I" ∈ gT := gT1 (i := 140) rfl rfl
theorem w_143 : Cond.lays RX2 "BlownNext$Reader" "place" "I" ∈ gT := gT1 (i := 142) rfl rfl
theorem w_145 : Cond.laysFinal RX2 "BlownNext$Reader" "text" "[B" ∈ gT := gT1 (i := 144) rfl rfl
theorem w_147 : Cond.lays RX2 "BlownNext$Reader" "end" "I" ∈ gT := gT1 (i := 146) rfl rfl
theorem w_149 : Cond.lays RX2 "BlownNext$Reader" "kind" "I" ∈ gT := gT1 (i := 148) rfl rfl
theorem w_151 : Cond.lays RX2 "BlownNext$Reader" "from" "I" ∈ gT := gT1 (i := 150) rfl rfl
theorem w_153 : Cond.lays RX2 "BlownNext$Reader" "behind" "I" ∈ gT := gT1 (i := 152) rfl rfl
theorem w_156 : Cond.arrayClass .boolean ∈ gT := gT1 (i := 155) rfl rfl
theorem w_157 : Cond.arrayClass .byte ∈ gT := gT1 (i := 156) rfl rfl
theorem w_158 : Cond.classLink RX7 40 RX6 ∈ gT := gT1 (i := 157) rfl rfl
theorem w_159 : Cond.instantiable RX6 3 ∈ gT := gT1 (i := 158) rfl rfl
theorem t_160 : Cond.methodLinkNest RX7 42 yX6_init "BlownNext" ∈ lw_tbl := tT1 (i := 159) rfl
theorem w_161 : Cond.instanceMethod yX6_init ∈ gT := gT1 (i := 160) rfl rfl
theorem w_162 : Cond.code yX6_init cX6_init 1 none ∈ gT := gT1 (i := 161) rfl rfl
theorem w_163 : Cond.methodLink RX6 3 objectInit ∈ gT := gT1 (i := 162) rfl rfl
theorem w_164 : Cond.fieldLink RX6 9 "BlownNext$ToldMinutes" "passed" "I" ∈ gT := gT1 (i := 163) rfl rfl
theorem w_165 : Cond.fieldLink RX7 158 "BlownNext$ToldMinutes" "passed" "I" ∈ gT := gT1 (i := 164) rfl rfl
theorem w_166 : Cond.fieldLink RX6 15 "BlownNext$ToldMinutes" "why" "I" ∈ gT := gT1 (i := 165) rfl rfl
theorem w_167 : Cond.fieldLink RX7 155 "BlownNext$ToldMinutes" "why" "I" ∈ gT := gT1 (i := 166) rfl rfl
theorem w_168 : Cond.fieldLink RX6 18 "BlownNext$ToldMinutes" "counted" "I" ∈ gT := gT1 (i := 167) rfl rfl
theorem w_169 : Cond.fieldLink RX7 161 "BlownNext$ToldMinutes" "counted" "I" ∈ gT := gT1 (i := 168) rfl rfl
theorem w_170 : Cond.lays RX6 "BlownNext$ToldMinutes" "passed" "I" ∈ gT := gT1 (i := 169) rfl rfl
theorem w_172 : Cond.lays RX6 "BlownNext$ToldMinutes" "why" "I" ∈ gT := gT1 (i := 171) rfl rfl
theorem w_174 : Cond.lays RX6 "BlownNext$ToldMinutes" "counted" "I" ∈ gT := gT1 (i := 173) rfl rfl
theorem w_177 : Cond.classLink RX7 47 RX3 ∈ gT := gT1 (i := 176) rfl rfl
theorem w_178 : Cond.instantiable RX3 6 ∈ gT := gT1 (i := 177) rfl rfl
theorem t_179 : Cond.methodLinkNest RX7 49 yX3_init "BlownNext" ∈ lw_tbl := tT1 (i := 178) rfl
theorem w_180 : Cond.instanceMethod yX3_init ∈ gT := gT1 (i := 179) rfl rfl
theorem w_181 : Cond.code yX3_init cX3_init 1 none ∈ gT := gT1 (i := 180) rfl rfl
theorem w_182 : Cond.methodLink RX3 3 objectInit ∈ gT := gT1 (i := 181) rfl rfl
theorem w_183 : Cond.fieldLink RX3 9 "BlownNext$Rhythms" "best" "[I" ∈ gT := gT1 (i := 182) rfl rfl
theorem w_184 : Cond.fieldLink RX7 227 "BlownNext$Rhythms" "best" "[I" ∈ gT := gT1 (i := 183) rfl rfl
theorem w_185 : Cond.fieldLink RX3 41 "BlownNext$Rhythms" "brokenBehind" "I" ∈ gT := gT1 (i := 184) rfl rfl
theorem w_186 : Cond.fieldLink RX7 207 "BlownNext$Rhythms" "brokenBehind" "I" ∈ gT := gT1 (i := 185) rfl rfl
theorem w_187 : Cond.fieldLink RX3 44 "BlownNext$Rhythms" "brokenBy" "I" ∈ gT := gT1 (i := 186) rfl rfl
theorem w_188 : Cond.fieldLink RX7 210 "BlownNext$Rhythms" "brokenBy" "I" ∈ gT := gT1 (i := 187) rfl rfl
theorem w_189 : Cond.fieldLink RX3 21 "BlownNext$Rhythms" "length" "I" ∈ gT := gT1 (i := 188) rfl rfl
theorem w_190 : Cond.fieldLink RX3 15 "BlownNext$Rhythms" "pulls" "[I" ∈ gT := gT1 (i := 189) rfl rfl
theorem w_191 : Cond.fieldLink RX3 18 "BlownNext$Rhythms" "change" "[I" ∈ gT := gT1 (i := 190) rfl rfl
theorem w_192 : Cond.laysFinal RX3 "BlownNext$Rhythms" "best" "[I" ∈ gT := gT1 (i := 191) rfl rfl
theorem w_194 : Cond.lays RX3 "BlownNext$Rhythms" "brokenBehind" "I" ∈ gT := gT1 (i := 193) rfl rfl
theorem w_196 : Cond.lays RX3 "BlownNext$Rhythms" "brokenBy" "I" ∈ gT := gT1 (i := 195) rfl rfl
theorem w_198 : Cond.lays RX3 "BlownNext$Rhythms" "length" "I" ∈ gT := gT1 (i := 197) rfl rfl
theorem w_200 : Cond.laysFinal RX3 "BlownNext$Rhythms" "pulls" "[I" ∈ gT := gT1 (i := 199) rfl rfl
theorem w_202 : Cond.laysFinal RX3 "BlownNext$Rhythms" "change" "[I" ∈ gT := gT1 (i := 201) rfl rfl
theorem w_205 : Cond.classLink RX7 54 RX0 ∈ gT := gT1 (i := 204) rfl rfl
theorem w_206 : Cond.instantiable RX0 3 ∈ gT := gT1 (i := 205) rfl rfl
theorem t_207 : Cond.methodLinkNest RX7 56 yX0_init "BlownNext" ∈ lw_tbl := tT1 (i := 206) rfl
theorem w_208 : Cond.instanceMethod yX0_init ∈ gT := gT1 (i := 207) rfl rfl
theorem w_209 : Cond.code yX0_init cX0_init 1 none ∈ gT := gT1 (i := 208) rfl rfl
theorem w_210 : Cond.methodLink RX0 3 objectInit ∈ gT := gT1 (i := 209) rfl rfl
theorem w_211 : Cond.fieldLink RX0 18 "BlownNext$Layout" "bestSum" "I" ∈ gT := gT1 (i := 210) rfl rfl
theorem w_212 : Cond.fieldLink RX7 259 "BlownNext$Layout" "bestSum" "I" ∈ gT := gT1 (i := 211) rfl rfl
theorem w_213 : Cond.fieldLink RX0 9 "BlownNext$Layout" "best" "[I" ∈ gT := gT1 (i := 212) rfl rfl
theorem w_214 : Cond.fieldLink RX7 262 "BlownNext$Layout" "best" "[I" ∈ gT := gT1 (i := 213) rfl rfl
theorem w_215 : Cond.fieldLink RX0 15 "BlownNext$Layout" "to" "[I" ∈ gT := gT1 (i := 214) rfl rfl
theorem w_216 : Cond.lays RX0 "BlownNext$Layout" "bestSum" "I" ∈ gT := gT1 (i := 215) rfl rfl
theorem w_218 : Cond.laysFinal RX0 "BlownNext$Layout" "best" "[I" ∈ gT := gT1 (i := 217) rfl rfl
theorem w_220 : Cond.laysFinal RX0 "BlownNext$Layout" "to" "[I" ∈ gT := gT1 (i := 219) rfl rfl
theorem w_223 : Cond.instantiable RX1 4 ∈ gT := gT1 (i := 222) rfl rfl
theorem t_224 : Cond.methodLinkNest RX7 61 yX1_init "BlownNext" ∈ lw_tbl := tT1 (i := 223) rfl
theorem w_225 : Cond.instanceMethod yX1_init ∈ gT := gT1 (i := 224) rfl rfl
theorem w_226 : Cond.code yX1_init cX1_init 1 none ∈ gT := gT1 (i := 225) rfl rfl
theorem w_227 : Cond.methodLink RX1 3 objectInit ∈ gT := gT1 (i := 226) rfl rfl
theorem w_228 : Cond.fieldLink RX1 15 "BlownNext$NumberRow" "there" "Z" ∈ gT := gT1 (i := 227) rfl rfl
theorem w_229 : Cond.fieldLink RX7 147 "BlownNext$NumberRow" "there" "Z" ∈ gT := gT1 (i := 228) rfl rfl
theorem w_230 : Cond.fieldLink RX1 23 "BlownNext$NumberRow" "size" "I" ∈ gT := gT1 (i := 229) rfl rfl
theorem w_231 : Cond.fieldLink RX6 21 "BlownNext$NumberRow" "size" "I" ∈ gT := gT1 (i := 230) rfl rfl
theorem w_232 : Cond.fieldLink RX7 279 "BlownNext$NumberRow" "size" "I" ∈ gT := gT1 (i := 231) rfl rfl
theorem w_233 : Cond.fieldLink RX1 9 "BlownNext$NumberRow" "numbers" "[J" ∈ gT := gT1 (i := 232) rfl rfl
theorem w_234 : Cond.fieldLink RX3 25 "BlownNext$NumberRow" "numbers" "[J" ∈ gT := gT1 (i := 233) rfl rfl
theorem w_235 : Cond.fieldLink RX6 30 "BlownNext$NumberRow" "numbers" "[J" ∈ gT := gT1 (i := 234) rfl rfl
theorem w_236 : Cond.fieldLink RX5 121 "BlownNext$NumberRow" "numbers" "[J" ∈ gT := gT1 (i := 235) rfl rfl
theorem w_237 : Cond.fieldLink RX7 286 "BlownNext$NumberRow" "numbers" "[J" ∈ gT := gT1 (i := 236) rfl rfl
theorem w_238 : Cond.fieldLink RX1 19 "BlownNext$NumberRow" "sort" "I" ∈ gT := gT1 (i := 237) rfl rfl
theorem w_239 : Cond.lays RX1 "BlownNext$NumberRow" "there" "Z" ∈ gT := gT1 (i := 238) rfl rfl
theorem w_241 : Cond.lays RX1 "BlownNext$NumberRow" "size" "I" ∈ gT := gT2 (i := 0) rfl rfl
theorem w_243 : Cond.laysFinal RX1 "BlownNext$NumberRow" "numbers" "[J" ∈ gT := gT2 (i := 2) rfl rfl
theorem w_245 : Cond.lays RX1 "BlownNext$NumberRow" "sort" "I" ∈ gT := gT2 (i := 4) rfl rfl
theorem w_248 : Cond.arrayClass .long ∈ gT := gT2 (i := 7) rfl rfl
theorem w_249 : Cond.fieldLink RX7 10 "BlownNext" "now" "LBlownNext$Street;" ∈ gT := gT2 (i := 8) rfl rfl
theorem w_250 : Cond.fieldLink RX7 16 "BlownNext" "spare" "LBlownNext$Street;" ∈ gT := gT2 (i := 9) rfl rfl
theorem w_251 : Cond.fieldLink RX7 19 "BlownNext" "images" "[LBlownNext$Street;" ∈ gT := gT2 (i := 10) rfl rfl
theorem w_252 : Cond.fieldLink RX7 23 "BlownNext" "imageMade" "[Z" ∈ gT := gT2 (i := 11) rfl rfl
theorem w_253 : Cond.fieldLink RX7 29 "BlownNext" "rows" "[LBlownNext$NumberRow;" ∈ gT := gT2 (i := 12) rfl rfl
theorem w_254 : Cond.fieldLink RX7 36 "BlownNext" "tape" "LBlownNext$Reader;" ∈ gT := gT2 (i := 13) rfl rfl
theorem w_255 : Cond.fieldLink RX7 43 "BlownNext" "told" "LBlownNext$ToldMinutes;" ∈ gT := gT2 (i := 14) rfl rfl
theorem w_256 : Cond.fieldLink RX7 50 "BlownNext" "rhythms" "LBlownNext$Rhythms;" ∈ gT := gT2 (i := 15) rfl rfl
theorem w_257 : Cond.fieldLink RX7 57 "BlownNext" "layout" "LBlownNext$Layout;" ∈ gT := gT2 (i := 16) rfl rfl
theorem w_258 : Cond.fieldLink RX7 239 "BlownNext" "search" "LBlownNext$Search;" ∈ gT := gT2 (i := 17) rfl rfl
theorem w_259 : Cond.laysFinal RX7 "BlownNext" "now" "LBlownNext$Street;" ∈ gT := gT2 (i := 18) rfl rfl
theorem w_261 : Cond.laysFinal RX7 "BlownNext" "spare" "LBlownNext$Street;" ∈ gT := gT2 (i := 20) rfl rfl
theorem w_263 : Cond.laysFinal RX7 "BlownNext" "images" "[LBlownNext$Street;" ∈ gT := gT2 (i := 22) rfl rfl
theorem w_265 : Cond.laysFinal RX7 "BlownNext" "imageMade" "[Z" ∈ gT := gT2 (i := 24) rfl rfl
theorem w_267 : Cond.laysFinal RX7 "BlownNext" "rows" "[LBlownNext$NumberRow;" ∈ gT := gT2 (i := 26) rfl rfl
theorem w_269 : Cond.laysFinal RX7 "BlownNext" "tape" "LBlownNext$Reader;" ∈ gT := gT2 (i := 28) rfl rfl
theorem w_271 : Cond.laysFinal RX7 "BlownNext" "told" "LBlownNext$ToldMinutes;" ∈ gT := gT2 (i := 30) rfl rfl
theorem w_273 : Cond.laysFinal RX7 "BlownNext" "rhythms" "LBlownNext$Rhythms;" ∈ gT := gT2 (i := 32) rfl rfl
theorem w_275 : Cond.laysFinal RX7 "BlownNext" "layout" "LBlownNext$Layout;" ∈ gT := gT2 (i := 34) rfl rfl
theorem w_277 : Cond.lays RX7 "BlownNext" "search" "LBlownNext$Search;" ∈ gT := gT2 (i := 36) rfl rfl
theorem w_280 : Cond.methodLink RL 13 yX7_feed ∈ gT := gT2 (i := 39) rfl rfl
theorem w_281 : Cond.instanceMethod yX7_feed ∈ gT := gT2 (i := 40) rfl rfl
theorem w_282 : Cond.selects RX7 yX7_feed yX7_feed ∈ gT := gT2 (i := 41) rfl rfl
theorem w_283 : Cond.code yX7_feed cX7_feed 6 (some .int) ∈ gT := gT2 (i := 42) rfl rfl
theorem w_284 : Cond.methodLink RX7 66 yX2_putBytes ∈ gT := gT2 (i := 43) rfl rfl
theorem w_285 : Cond.instanceMethod yX2_putBytes ∈ gT := gT2 (i := 44) rfl rfl
theorem w_286 : Cond.selects RX2 yX2_putBytes yX2_putBytes ∈ gT := gT2 (i := 45) rfl rfl
theorem w_287 : Cond.code yX2_putBytes cX2_putBytes 3 none ∈ gT := gT2 (i := 46) rfl rfl
theorem w_288 : Cond.methodLink RL 18 yX7_street ∈ gT := gT2 (i := 47) rfl rfl
theorem w_289 : Cond.instanceMethod yX7_street ∈ gT := gT2 (i := 48) rfl rfl
theorem w_290 : Cond.selects RX7 yX7_street yX7_street ∈ gT := gT2 (i := 49) rfl rfl
theorem w_291 : Cond.code yX7_street cX7_street 2 (some .int) ∈ gT := gT2 (i := 50) rfl rfl
theorem w_292 : Cond.methodLink RX7 70 yX7_isWithin ∈ gT := gT2 (i := 51) rfl rfl
theorem w_293 : Cond.static yX7_isWithin ∈ gT := gT2 (i := 52) rfl rfl
theorem w_294 : Cond.code yX7_isWithin cX7_isWithin 3 (some .boolean) ∈ gT := gT2 (i := 53) rfl rfl
theorem w_295 : Cond.methodLink RX7 74 yX2_readStreet ∈ gT := gT2 (i := 54) rfl rfl
theorem w_296 : Cond.instanceMethod yX2_readStreet ∈ gT := gT2 (i := 55) rfl rfl
theorem w_297 : Cond.selects RX2 yX2_readStreet yX2_readStreet ∈ gT := gT2 (i := 56) rfl rfl
theorem w_298 : Cond.code yX2_readStreet cX2_readStreet 4 none ∈ gT := gT2 (i := 57) rfl rfl
theorem w_299 : Cond.methodLink RX2 22 yJ9_min_7cf53 ∈ gT := gT2 (i := 58) rfl rfl
theorem w_300 : Cond.static yJ9_min_7cf53 ∈ gT := gT2 (i := 59) rfl rfl
theorem w_301 : Cond.code yJ9_min_7cf53 cJ9_min_7cf53 2 (some .int) ∈ gT := gT2 (i := 60) rfl rfl
theorem w_302 : Cond.methodLink RX2 37 yX5_clear ∈ gT := gT2 (i := 61) rfl rfl
theorem w_303 : Cond.instanceMethod yX5_clear ∈ gT := gT2 (i := 62) rfl rfl
theorem w_304 : Cond.selects RX5 yX5_clear yX5_clear ∈ gT := gT2 (i := 63) rfl rfl
theorem w_305 : Cond.code yX5_clear cX5_clear 1 none ∈ gT := gT2 (i := 64) rfl rfl
theorem w_306 : Cond.methodLink RX2 46 yJ7_fill_53178 ∈ gT := gT2 (i := 65) rfl rfl
theorem w_307 : Cond.static yJ7_fill_53178 ∈ gT := gT2 (i := 66) rfl rfl
theorem w_308 : Cond.code yJ7_fill_53178 cJ7_fill_53178 4 none ∈ gT := gT2 (i := 67) rfl rfl
theorem w_309 : Cond.methodLink RX2 52 yX2_nextToken ∈ gT := gT2 (i := 68) rfl rfl
theorem w_311 : Cond.instanceMethod yX2_nextToken ∈ gT := gT2 (i := 70) rfl rfl
theorem w_312 : Cond.code yX2_nextToken cX2_nextToken 1 none ∈ gT := gT2 (i := 71) rfl rfl
theorem w_313 : Cond.methodLink RX2 146 yX2_kindAt ∈ gT := gT2 (i := 72) rfl rfl
theorem w_315 : Cond.instanceMethod yX2_kindAt ∈ gT := gT2 (i := 74) rfl rfl
theorem w_316 : Cond.code yX2_kindAt cX2_kindAt 3 (some .int) ∈ gT := gT2 (i := 75) rfl rfl
theorem w_317 : Cond.methodLink RX2 81 yX2_fail ∈ gT := gT2 (i := 76) rfl rfl
theorem w_319 : Cond.instanceMethod yX2_fail ∈ gT := gT2 (i := 78) rfl rfl
theorem w_320 : Cond.code yX2_fail cX2_fail 2 none ∈ gT := gT2 (i := 79) rfl rfl
theorem t_321 : Cond.stringRef RX2 58 "smith" ∈ lw_tbl := tT2 (i := 80) rfl
theorem w_322 : Cond.methodLink RX2 60 yX2_isWord ∈ gT := gT2 (i := 81) rfl rfl
theorem w_324 : Cond.instanceMethod yX2_isWord ∈ gT := gT2 (i := 83) rfl rfl
theorem w_325 : Cond.code yX2_isWord cX2_isWord 3 (some .boolean) ∈ gT := gT2 (i := 84) rfl rfl
theorem w_326 : Cond.methodLink RX2 136 yJ0_length_8abf5 ∈ gT := gT2 (i := 85) rfl rfl
theorem w_327 : Cond.instanceMethod yJ0_length_8abf5 ∈ gT := gT2 (i := 86) rfl rfl
theorem w_328 : Cond.selects RJ0 yJ0_length_8abf5 yJ0_length_8abf5 ∈ gT := gT2 (i := 87) rfl rfl
theorem w_329 : Cond.code yJ0_length_8abf5 cJ0_length_8abf5 1 (some .int) ∈ gT := gT2 (i := 88) rfl rfl
theorem w_330 : Cond.methodLink RJ0 335 yJ0_coder_7d493 ∈ gT := gT2 (i := 89) rfl rfl
theorem w_331 : Cond.instanceMethod yJ0_coder_7d493 ∈ gT := gT2 (i := 90) rfl rfl
theorem w_332 : Cond.selects RJ0 yJ0_coder_7d493 yJ0_coder_7d493 ∈ gT := gT2 (i := 91) rfl rfl
theorem w_333 : Cond.code yJ0_coder_7d493 cJ0_coder_7d493 1 (some .byte) ∈ gT := gT2 (i := 92) rfl rfl
theorem w_334 : Cond.fieldLink RJ0 38 "java/lang/String" "COMPACT_STRINGS" "Z" ∈ gT := gT2 (i := 93) rfl rfl
theorem t_335 : Cond.laysStatic RJ0 "COMPACT_STRINGS" "Z" ∈ lw_tbl := tT2 (i := 94) rfl
theorem w_336 : Cond.methodLink RX2 142 yJ0_charAt_5068e ∈ gT := gT2 (i := 95) rfl rfl
theorem w_337 : Cond.instanceMethod yJ0_charAt_5068e ∈ gT := gT2 (i := 96) rfl rfl
theorem w_338 : Cond.selects RJ0 yJ0_charAt_5068e yJ0_charAt_5068e ∈ gT := gT2 (i := 97) rfl rfl
theorem w_339 : Cond.code yJ0_charAt_5068e cJ0_charAt_5068e 2 (some .char) ∈ gT := gT2 (i := 98) rfl rfl
theorem w_340 : Cond.methodLink RJ0 492 yJ0_isLatin1_aae02 ∈ gT := gT2 (i := 99) rfl rfl
theorem w_341 : Cond.instanceMethod yJ0_isLatin1_aae02 ∈ gT := gT2 (i := 100) rfl rfl
theorem w_342 : Cond.selects RJ0 yJ0_isLatin1_aae02 yJ0_isLatin1_aae02 ∈ gT := gT2 (i := 101) rfl rfl
theorem w_343 : Cond.code yJ0_isLatin1_aae02 cJ0_isLatin1_aae02 1 (some .boolean) ∈ gT := gT2 (i := 102) rfl rfl
theorem w_344 : Cond.methodLink RJ0 495 yJ1_charAt_3b067 ∈ gT := gT2 (i := 103) rfl rfl
theorem w_345 : Cond.static yJ1_charAt_3b067 ∈ gT := gT2 (i := 104) rfl rfl
theorem w_346 : Cond.code yJ1_charAt_3b067 cJ1_charAt_3b067 2 (some .char) ∈ gT := gT2 (i := 105) rfl rfl
theorem w_347 : Cond.methodLink RJ1 9 yJ0_checkIndex_df160 ∈ gT := gT2 (i := 106) rfl rfl
theorem w_348 : Cond.static yJ0_checkIndex_df160 ∈ gT := gT2 (i := 107) rfl rfl
theorem w_349 : Cond.code yJ0_checkIndex_df160 cJ0_checkIndex_df160 2 none ∈ gT := gT2 (i := 108) rfl rfl
theorem w_350 : Cond.fieldLink RJ0 1053 "jdk/internal/util/Preconditions" "SIOOBE_FORMATTER" "Ljava/util/function/BiFunction;" ∈ gT := gT2 (i := 109) rfl rfl
theorem t_351 : Cond.laysStatic RJ3 "SIOOBE_FORMATTER" "Ljava/util/function/BiFunction;" ∈ lw_tbl := tT2 (i := 110) rfl
theorem w_352 : Cond.methodLink RJ0 1059 yJ3_checkIndex_8e157 ∈ gT := gT2 (i := 111) rfl rfl
theorem w_353 : Cond.static yJ3_checkIndex_8e157 ∈ gT := gT2 (i := 112) rfl rfl
theorem w_354 : Cond.code yJ3_checkIndex_8e157 cJ3_checkIndex_8e157 3 (some .int) ∈ gT := gT2 (i := 113) rfl rfl
theorem w_355 : Cond.methodLink RJ0 498 yJ2_charAt_3b067 ∈ gT := gT2 (i := 114) rfl rfl
theorem w_356 : Cond.static yJ2_charAt_3b067 ∈ gT := gT2 (i := 115) rfl rfl
theorem w_357 : Cond.code yJ2_charAt_3b067 cJ2_charAt_3b067 2 (some .char) ∈ gT := gT2 (i := 116) rfl rfl
theorem w_358 : Cond.methodLink RJ2 67 yJ2_checkIndex_2214a ∈ gT := gT2 (i := 117) rfl rfl
theorem w_359 : Cond.static yJ2_checkIndex_2214a ∈ gT := gT2 (i := 118) rfl rfl
theorem w_360 : Cond.code yJ2_checkIndex_2214a cJ2_checkIndex_2214a 2 none ∈ gT := gT2 (i := 119) rfl rfl
theorem w_361 : Cond.methodLink RJ2 48 yJ2_length_9d52b ∈ gT := gT2 (i := 120) rfl rfl
theorem w_362 : Cond.static yJ2_length_9d52b ∈ gT := gT2 (i := 121) rfl rfl
theorem w_363 : Cond.code yJ2_length_9d52b cJ2_length_9d52b 1 (some .int) ∈ gT := gT2 (i := 122) rfl rfl
theorem w_364 : Cond.methodLink RJ2 414 yJ0_checkIndex_df160 ∈ gT := gT2 (i := 123) rfl rfl
theorem w_365 : Cond.methodLink RJ2 71 yJ2_getChar_3b067 ∈ gT := gT2 (i := 124) rfl rfl
theorem w_366 : Cond.static yJ2_getChar_3b067 ∈ gT := gT2 (i := 125) rfl rfl
theorem w_367 : Cond.code yJ2_getChar_3b067 cJ2_getChar_3b067 2 (some .char) ∈ gT := gT2 (i := 126) rfl rfl
theorem w_368 : Cond.fieldLink RJ2 44 "java/lang/StringUTF16" "$assertionsDisabled" "Z" ∈ gT := gT2 (i := 127) rfl rfl
theorem t_369 : Cond.laysStatic RJ2 "$assertionsDisabled" "Z" ∈ lw_tbl := tT2 (i := 128) rfl
theorem w_370 : Cond.fieldLink RJ2 59 "java/lang/StringUTF16" "HI_BYTE_SHIFT" "I" ∈ gT := gT2 (i := 129) rfl rfl
theorem t_371 : Cond.laysStatic RJ2 "HI_BYTE_SHIFT" "I" ∈ lw_tbl := tT2 (i := 130) rfl
theorem w_372 : Cond.fieldLink RJ2 63 "java/lang/StringUTF16" "LO_BYTE_SHIFT" "I" ∈ gT := gT2 (i := 131) rfl rfl
theorem t_373 : Cond.laysStatic RJ2 "LO_BYTE_SHIFT" "I" ∈ lw_tbl := tT2 (i := 132) rfl
theorem w_374 : Cond.methodLink RX2 64 yX2_readSmith ∈ gT := gT2 (i := 133) rfl rfl
theorem w_376 : Cond.instanceMethod yX2_readSmith ∈ gT := gT2 (i := 135) rfl rfl
theorem w_377 : Cond.code yX2_readSmith cX2_readSmith 3 none ∈ gT := gT2 (i := 136) rfl rfl
theorem w_378 : Cond.methodLink RX2 75 yX2_takeNumber ∈ gT := gT2 (i := 137) rfl rfl
theorem w_380 : Cond.instanceMethod yX2_takeNumber ∈ gT := gT2 (i := 139) rfl rfl
theorem w_381 : Cond.code yX2_takeNumber cX2_takeNumber 5 (some .int) ∈ gT := gT2 (i := 140) rfl rfl
theorem t_382 : Cond.methodLinkNest RX2 132 yX7_isWithin "BlownNext" ∈ lw_tbl := tT2 (i := 141) rfl
theorem t_383 : Cond.stringRef RX2 103 "cool" ∈ lw_tbl := tT2 (i := 142) rfl
theorem w_384 : Cond.methodLink RX2 104 yX2_takeOption ∈ gT := gT2 (i := 143) rfl rfl
theorem w_386 : Cond.instanceMethod yX2_takeOption ∈ gT := gT2 (i := 145) rfl rfl
theorem w_387 : Cond.code yX2_takeOption cX2_takeOption 5 (some .int) ∈ gT := gT2 (i := 146) rfl rfl
theorem t_388 : Cond.stringRef RX2 111 "heat" ∈ lw_tbl := tT2 (i := 147) rfl
theorem t_389 : Cond.stringRef RX2 115 "low" ∈ lw_tbl := tT2 (i := 148) rfl
theorem t_390 : Cond.stringRef RX2 119 "high" ∈ lw_tbl := tT2 (i := 149) rfl
theorem w_391 : Cond.methodLink RX2 120 yJ9_max_7cf53 ∈ gT := gT2 (i := 150) rfl rfl
theorem w_392 : Cond.static yJ9_max_7cf53 ∈ gT := gT2 (i := 151) rfl rfl
theorem w_393 : Cond.code yJ9_max_7cf53 cJ9_max_7cf53 2 (some .int) ∈ gT := gT2 (i := 152) rfl rfl
theorem t_394 : Cond.stringRef RX2 123 "piece" ∈ lw_tbl := tT2 (i := 153) rfl
theorem w_395 : Cond.methodLink RX2 125 yX5_beginPiece ∈ gT := gT2 (i := 154) rfl rfl
theorem w_396 : Cond.instanceMethod yX5_beginPiece ∈ gT := gT2 (i := 155) rfl rfl
theorem w_397 : Cond.selects RX5 yX5_beginPiece yX5_beginPiece ∈ gT := gT2 (i := 156) rfl rfl
theorem w_398 : Cond.code yX5_beginPiece cX5_beginPiece 3 none ∈ gT := gT2 (i := 157) rfl rfl
theorem t_399 : Cond.stringRef RX2 68 "blows" ∈ lw_tbl := tT2 (i := 158) rfl
theorem w_400 : Cond.methodLink RX2 70 yX2_readBlows ∈ gT := gT2 (i := 159) rfl rfl
theorem w_402 : Cond.instanceMethod yX2_readBlows ∈ gT := gT2 (i := 161) rfl rfl
theorem w_403 : Cond.code yX2_readBlows cX2_readBlows 4 none ∈ gT := gT2 (i := 162) rfl rfl
theorem t_404 : Cond.stringRef RX2 73 "burnt" ∈ lw_tbl := tT2 (i := 163) rfl
theorem w_405 : Cond.methodLink RX2 85 yX2_endLine ∈ gT := gT2 (i := 164) rfl rfl
theorem w_407 : Cond.instanceMethod yX2_endLine ∈ gT := gT2 (i := 166) rfl rfl
theorem w_408 : Cond.code yX2_endLine cX2_endLine 2 none ∈ gT := gT2 (i := 167) rfl rfl
theorem w_409 : Cond.methodLink RX2 88 yX5_layUntoldRopes ∈ gT := gT2 (i := 168) rfl rfl
theorem w_410 : Cond.instanceMethod yX5_layUntoldRopes ∈ gT := gT2 (i := 169) rfl rfl
theorem w_411 : Cond.selects RX5 yX5_layUntoldRopes yX5_layUntoldRopes ∈ gT := gT2 (i := 170) rfl rfl
theorem w_412 : Cond.code yX5_layUntoldRopes cX5_layUntoldRopes 2 none ∈ gT := gT2 (i := 171) rfl rfl
theorem w_413 : Cond.methodLink RX7 81 yX5_takeFrom ∈ gT := gT2 (i := 172) rfl rfl
theorem w_414 : Cond.instanceMethod yX5_takeFrom ∈ gT := gT2 (i := 173) rfl rfl
theorem w_415 : Cond.selects RX5 yX5_takeFrom yX5_takeFrom ∈ gT := gT2 (i := 174) rfl rfl
theorem w_416 : Cond.code yX5_takeFrom cX5_takeFrom 3 none ∈ gT := gT2 (i := 175) rfl rfl
theorem w_417 : Cond.methodLink RL 23 yX7_fault ∈ gT := gT2 (i := 176) rfl rfl
theorem w_418 : Cond.instanceMethod yX7_fault ∈ gT := gT2 (i := 177) rfl rfl
theorem w_419 : Cond.selects RX7 yX7_fault yX7_fault ∈ gT := gT2 (i := 178) rfl rfl
theorem w_420 : Cond.code yX7_fault cX7_fault 2 (some .int) ∈ gT := gT2 (i := 179) rfl rfl
theorem w_421 : Cond.methodLink RL 27 yX7_smith ∈ gT := gT2 (i := 180) rfl rfl
theorem w_422 : Cond.instanceMethod yX7_smith ∈ gT := gT2 (i := 181) rfl rfl
theorem w_423 : Cond.selects RX7 yX7_smith yX7_smith ∈ gT := gT2 (i := 182) rfl rfl
theorem w_424 : Cond.code yX7_smith cX7_smith 3 (some .int) ∈ gT := gT2 (i := 183) rfl rfl
theorem w_425 : Cond.methodLink RX7 91 yX5_isSmith ∈ gT := gT2 (i := 184) rfl rfl
theorem w_426 : Cond.instanceMethod yX5_isSmith ∈ gT := gT2 (i := 185) rfl rfl
theorem w_427 : Cond.selects RX5 yX5_isSmith yX5_isSmith ∈ gT := gT2 (i := 186) rfl rfl
theorem w_428 : Cond.code yX5_isSmith cX5_isSmith 2 (some .boolean) ∈ gT := gT2 (i := 187) rfl rfl
theorem w_429 : Cond.methodLink RX7 123 yX5_isDone ∈ gT := gT2 (i := 188) rfl rfl
theorem w_430 : Cond.instanceMethod yX5_isDone ∈ gT := gT2 (i := 189) rfl rfl
theorem w_431 : Cond.selects RX5 yX5_isDone yX5_isDone ∈ gT := gT2 (i := 190) rfl rfl
theorem w_432 : Cond.code yX5_isDone cX5_isDone 2 (some .boolean) ∈ gT := gT2 (i := 191) rfl rfl
theorem w_433 : Cond.methodLink RL 32 yX7_blowers ∈ gT := gT2 (i := 192) rfl rfl
theorem w_434 : Cond.instanceMethod yX7_blowers ∈ gT := gT2 (i := 193) rfl rfl
theorem w_435 : Cond.selects RX7 yX7_blowers yX7_blowers ∈ gT := gT2 (i := 194) rfl rfl
theorem w_436 : Cond.code yX7_blowers cX7_blowers 2 (some .int) ∈ gT := gT2 (i := 195) rfl rfl
theorem w_437 : Cond.methodLink RX7 126 yX5_blowersOf ∈ gT := gT2 (i := 196) rfl rfl
theorem w_438 : Cond.instanceMethod yX5_blowersOf ∈ gT := gT2 (i := 197) rfl rfl
theorem w_439 : Cond.selects RX5 yX5_blowersOf yX5_blowersOf ∈ gT := gT2 (i := 198) rfl rfl
theorem w_440 : Cond.code yX5_blowersOf cX5_blowersOf 4 (some .int) ∈ gT := gT2 (i := 199) rfl rfl
theorem w_441 : Cond.methodLink RL 36 yX7_rope ∈ gT := gT2 (i := 200) rfl rfl
theorem w_442 : Cond.instanceMethod yX7_rope ∈ gT := gT2 (i := 201) rfl rfl
theorem w_443 : Cond.selects RX7 yX7_rope yX7_rope ∈ gT := gT2 (i := 202) rfl rfl
theorem w_444 : Cond.code yX7_rope cX7_rope 4 (some .int) ∈ gT := gT2 (i := 203) rfl rfl
theorem w_445 : Cond.methodLink RL 40 yX7_arm ∈ gT := gT2 (i := 204) rfl rfl
theorem w_446 : Cond.instanceMethod yX7_arm ∈ gT := gT2 (i := 205) rfl rfl
theorem w_447 : Cond.selects RX7 yX7_arm yX7_arm ∈ gT := gT2 (i := 206) rfl rfl
theorem w_448 : Cond.code yX7_arm cX7_arm 4 (some .int) ∈ gT := gT2 (i := 207) rfl rfl
theorem w_449 : Cond.methodLink RL 44 yX7_piece ∈ gT := gT2 (i := 208) rfl rfl
theorem w_450 : Cond.instanceMethod yX7_piece ∈ gT := gT2 (i := 209) rfl rfl
theorem w_451 : Cond.selects RX7 yX7_piece yX7_piece ∈ gT := gT2 (i := 210) rfl rfl
theorem w_452 : Cond.code yX7_piece cX7_piece 4 (some .int) ∈ gT := gT2 (i := 211) rfl rfl
theorem w_453 : Cond.methodLink RX7 130 yX5_beginPiece ∈ gT := gT2 (i := 212) rfl rfl
theorem w_454 : Cond.methodLink RL 48 yX7_minute ∈ gT := gT2 (i := 213) rfl rfl
theorem w_455 : Cond.instanceMethod yX7_minute ∈ gT := gT2 (i := 214) rfl rfl
theorem w_456 : Cond.selects RX7 yX7_minute yX7_minute ∈ gT := gT2 (i := 215) rfl rfl
theorem w_457 : Cond.code yX7_minute cX7_minute 3 (some .int) ∈ gT := gT2 (i := 216) rfl rfl
theorem w_458 : Cond.methodLink RX7 134 yX5_isSet ∈ gT := gT2 (i := 217) rfl rfl
theorem w_459 : Cond.instanceMethod yX5_isSet ∈ gT := gT2 (i := 218) rfl rfl
theorem w_460 : Cond.selects RX5 yX5_isSet yX5_isSet ∈ gT := gT2 (i := 219) rfl rfl
theorem w_461 : Cond.code yX5_isSet cX5_isSet 2 (some .boolean) ∈ gT := gT2 (i := 220) rfl rfl
theorem w_462 : Cond.methodLink RX5 58 yX5_everyone ∈ gT := gT2 (i := 221) rfl rfl
theorem w_463 : Cond.instanceMethod yX5_everyone ∈ gT := gT2 (i := 222) rfl rfl
theorem w_464 : Cond.selects RX5 yX5_everyone yX5_everyone ∈ gT := gT2 (i := 223) rfl rfl
theorem w_465 : Cond.code yX5_everyone cX5_everyone 1 (some .int) ∈ gT := gT2 (i := 224) rfl rfl
theorem w_466 : Cond.methodLink RX7 140 yX5_pass ∈ gT := gT2 (i := 225) rfl rfl
theorem w_467 : Cond.instanceMethod yX5_pass ∈ gT := gT2 (i := 226) rfl rfl
theorem w_468 : Cond.selects RX5 yX5_pass yX5_pass ∈ gT := gT2 (i := 227) rfl rfl
theorem w_469 : Cond.code yX5_pass cX5_pass 7 (some .int) ∈ gT := gT2 (i := 228) rfl rfl
theorem t_470 : Cond.methodLinkNest RX5 70 yX7_isIn "BlownNext" ∈ lw_tbl := tT2 (i := 229) rfl
theorem w_471 : Cond.static yX7_isIn ∈ gT := gT2 (i := 230) rfl rfl
theorem w_472 : Cond.code yX7_isIn cX7_isIn 2 (some .boolean) ∈ gT := gT2 (i := 231) rfl rfl
theorem w_473 : Cond.methodLink RX5 81 yX5_canStrike ∈ gT := gT2 (i := 232) rfl rfl
theorem w_474 : Cond.instanceMethod yX5_canStrike ∈ gT := gT2 (i := 233) rfl rfl
theorem w_475 : Cond.selects RX5 yX5_canStrike yX5_canStrike ∈ gT := gT2 (i := 234) rfl rfl
theorem w_476 : Cond.code yX5_canStrike cX5_canStrike 2 (some .boolean) ∈ gT := gT2 (i := 235) rfl rfl
theorem w_477 : Cond.methodLink RX5 62 yX5_isDone ∈ gT := gT2 (i := 236) rfl rfl
theorem w_478 : Cond.methodLink RX5 66 yX5_isWorkableAt ∈ gT := gT2 (i := 237) rfl rfl
theorem w_479 : Cond.instanceMethod yX5_isWorkableAt ∈ gT := gT2 (i := 238) rfl rfl
theorem w_480 : Cond.selects RX5 yX5_isWorkableAt yX5_isWorkableAt ∈ gT := gT2 (i := 239) rfl rfl
theorem w_481 : Cond.code yX5_isWorkableAt cX5_isWorkableAt 3 (some .boolean) ∈ gT := gT3 (i := 0) rfl rfl
theorem w_482 : Cond.methodLink RX5 84 yX5_weighChanges ∈ gT := gT3 (i := 1) rfl rfl
theorem w_484 : Cond.instanceMethod yX5_weighChanges ∈ gT := gT3 (i := 3) rfl rfl
theorem w_485 : Cond.code yX5_weighChanges cX5_weighChanges 3 none ∈ gT := gT3 (i := 4) rfl rfl
theorem w_486 : Cond.methodLink RX5 88 yX5_isSmith ∈ gT := gT3 (i := 5) rfl rfl
theorem t_487 : Cond.methodLinkNest RX5 77 yX7_bounded "BlownNext" ∈ lw_tbl := tT3 (i := 6) rfl
theorem w_488 : Cond.static yX7_bounded ∈ gT := gT3 (i := 7) rfl rfl
theorem w_489 : Cond.code yX7_bounded cX7_bounded 1 (some .int) ∈ gT := gT3 (i := 8) rfl rfl
theorem w_490 : Cond.methodLink RX7 302 yJ9_min_7cf53 ∈ gT := gT3 (i := 9) rfl rfl
theorem w_491 : Cond.methodLink RX7 307 yJ9_max_7cf53 ∈ gT := gT3 (i := 10) rfl rfl
theorem w_492 : Cond.methodLink RX5 91 yX5_burn ∈ gT := gT3 (i := 11) rfl rfl
theorem w_494 : Cond.instanceMethod yX5_burn ∈ gT := gT3 (i := 13) rfl rfl
theorem w_495 : Cond.code yX5_burn cX5_burn 2 none ∈ gT := gT3 (i := 14) rfl rfl
theorem w_496 : Cond.methodLink RX5 94 yJ9_max_7cf53 ∈ gT := gT3 (i := 15) rfl rfl
theorem w_497 : Cond.methodLink RL 52 yX7_judge ∈ gT := gT3 (i := 16) rfl rfl
theorem w_498 : Cond.instanceMethod yX7_judge ∈ gT := gT3 (i := 17) rfl rfl
theorem w_499 : Cond.selects RX7 yX7_judge yX7_judge ∈ gT := gT3 (i := 18) rfl rfl
theorem w_500 : Cond.code yX7_judge cX7_judge 3 (some .int) ∈ gT := gT3 (i := 19) rfl rfl
theorem w_501 : Cond.methodLink RX7 144 yX7_isRow ∈ gT := gT3 (i := 20) rfl rfl
theorem w_502 : Cond.static yX7_isRow ∈ gT := gT3 (i := 21) rfl rfl
theorem w_503 : Cond.code yX7_isRow cX7_isRow 1 (some .boolean) ∈ gT := gT3 (i := 22) rfl rfl
theorem w_504 : Cond.methodLink RX7 151 yX6_passOn ∈ gT := gT3 (i := 23) rfl rfl
theorem w_505 : Cond.instanceMethod yX6_passOn ∈ gT := gT3 (i := 24) rfl rfl
theorem w_506 : Cond.selects RX6 yX6_passOn yX6_passOn ∈ gT := gT3 (i := 25) rfl rfl
theorem w_507 : Cond.code yX6_passOn cX6_passOn 4 none ∈ gT := gT3 (i := 26) rfl rfl
theorem w_508 : Cond.methodLink RX6 26 yX6_whyNot ∈ gT := gT3 (i := 27) rfl rfl
theorem w_509 : Cond.static yX6_whyNot ∈ gT := gT3 (i := 28) rfl rfl
theorem w_510 : Cond.code yX6_whyNot cX6_whyNot 7 (some .int) ∈ gT := gT3 (i := 29) rfl rfl
theorem w_511 : Cond.methodLink RX6 40 yX6_isForeign ∈ gT := gT3 (i := 30) rfl rfl
theorem w_512 : Cond.static yX6_isForeign ∈ gT := gT3 (i := 31) rfl rfl
theorem w_513 : Cond.code yX6_isForeign cX6_isForeign 3 (some .boolean) ∈ gT := gT3 (i := 32) rfl rfl
theorem w_514 : Cond.methodLink RX6 47 yX5_everyone ∈ gT := gT3 (i := 33) rfl rfl
theorem w_515 : Cond.methodLink RX6 34 yX5_pass ∈ gT := gT3 (i := 34) rfl rfl
theorem w_516 : Cond.methodLink RX7 164 yX5_piecesDone ∈ gT := gT3 (i := 35) rfl rfl
theorem w_517 : Cond.instanceMethod yX5_piecesDone ∈ gT := gT3 (i := 36) rfl rfl
theorem w_518 : Cond.selects RX5 yX5_piecesDone yX5_piecesDone ∈ gT := gT3 (i := 37) rfl rfl
theorem w_519 : Cond.code yX5_piecesDone cX5_piecesDone 3 (some .int) ∈ gT := gT3 (i := 38) rfl rfl
theorem w_520 : Cond.methodLink RL 56 yX7_perform ∈ gT := gT3 (i := 39) rfl rfl
theorem w_521 : Cond.instanceMethod yX7_perform ∈ gT := gT3 (i := 40) rfl rfl
theorem w_522 : Cond.selects RX7 yX7_perform yX7_perform ∈ gT := gT3 (i := 41) rfl rfl
theorem w_523 : Cond.code yX7_perform cX7_perform 3 (some .int) ∈ gT := gT3 (i := 42) rfl rfl
theorem w_524 : Cond.methodLink RX7 171 yX7_refusedRow ∈ gT := gT3 (i := 43) rfl rfl
theorem w_526 : Cond.instanceMethod yX7_refusedRow ∈ gT := gT3 (i := 45) rfl rfl
theorem w_527 : Cond.code yX7_refusedRow cX7_refusedRow 2 (some .int) ∈ gT := gT3 (i := 46) rfl rfl
theorem w_528 : Cond.methodLink RL 60 yX7_custom ∈ gT := gT3 (i := 47) rfl rfl
theorem w_529 : Cond.instanceMethod yX7_custom ∈ gT := gT3 (i := 48) rfl rfl
theorem w_530 : Cond.selects RX7 yX7_custom yX7_custom ∈ gT := gT3 (i := 49) rfl rfl
theorem w_531 : Cond.code yX7_custom cX7_custom 3 (some .int) ∈ gT := gT3 (i := 50) rfl rfl
theorem w_532 : Cond.methodLink RX7 174 yX7_refusedMinutes ∈ gT := gT3 (i := 51) rfl rfl
theorem w_534 : Cond.instanceMethod yX7_refusedMinutes ∈ gT := gT3 (i := 53) rfl rfl
theorem w_535 : Cond.code yX7_refusedMinutes cX7_refusedMinutes 3 (some .int) ∈ gT := gT3 (i := 54) rfl rfl
theorem w_536 : Cond.methodLink RX7 178 yX7_doneByCustom ∈ gT := gT3 (i := 55) rfl rfl
theorem w_538 : Cond.instanceMethod yX7_doneByCustom ∈ gT := gT3 (i := 57) rfl rfl
theorem w_539 : Cond.code yX7_doneByCustom cX7_doneByCustom 5 (some .int) ∈ gT := gT3 (i := 58) rfl rfl
theorem w_540 : Cond.methodLink RX7 181 yX5_passAllByCustom ∈ gT := gT3 (i := 59) rfl rfl
theorem w_541 : Cond.instanceMethod yX5_passAllByCustom ∈ gT := gT3 (i := 60) rfl rfl
theorem w_542 : Cond.selects RX5 yX5_passAllByCustom yX5_passAllByCustom ∈ gT := gT3 (i := 61) rfl rfl
theorem w_543 : Cond.code yX5_passAllByCustom cX5_passAllByCustom 7 (some .int) ∈ gT := gT3 (i := 62) rfl rfl
theorem w_544 : Cond.methodLink RX5 106 yX5_passByCustom ∈ gT := gT3 (i := 63) rfl rfl
theorem w_545 : Cond.instanceMethod yX5_passByCustom ∈ gT := gT3 (i := 64) rfl rfl
theorem w_546 : Cond.selects RX5 yX5_passByCustom yX5_passByCustom ∈ gT := gT3 (i := 65) rfl rfl
theorem w_547 : Cond.code yX5_passByCustom cX5_passByCustom 7 (some .int) ∈ gT := gT3 (i := 66) rfl rfl
theorem w_548 : Cond.methodLink RX5 99 yX5_bears ∈ gT := gT3 (i := 67) rfl rfl
theorem w_550 : Cond.instanceMethod yX5_bears ∈ gT := gT3 (i := 69) rfl rfl
theorem w_551 : Cond.code yX5_bears cX5_bears 3 (some .boolean) ∈ gT := gT3 (i := 70) rfl rfl
theorem w_552 : Cond.methodLink RX5 102 yX5_pass ∈ gT := gT3 (i := 71) rfl rfl
theorem w_553 : Cond.methodLink RL 64 yX7_live ∈ gT := gT3 (i := 72) rfl rfl
theorem w_554 : Cond.instanceMethod yX7_live ∈ gT := gT3 (i := 73) rfl rfl
theorem w_555 : Cond.selects RX7 yX7_live yX7_live ∈ gT := gT3 (i := 74) rfl rfl
theorem w_556 : Cond.code yX7_live cX7_live 3 (some .int) ∈ gT := gT3 (i := 75) rfl rfl
theorem w_557 : Cond.methodLink RL 68 yX7_day ∈ gT := gT3 (i := 76) rfl rfl
theorem w_558 : Cond.instanceMethod yX7_day ∈ gT := gT3 (i := 77) rfl rfl
theorem w_559 : Cond.selects RX7 yX7_day yX7_day ∈ gT := gT3 (i := 78) rfl rfl
theorem w_560 : Cond.code yX7_day cX7_day 11 (some .int) ∈ gT := gT3 (i := 79) rfl rfl
theorem w_561 : Cond.constant RX7 187 (1103515245) ∈ gT := gT3 (i := 80) rfl rfl
theorem w_562 : Cond.methodLink RL 72 yX7_ring ∈ gT := gT3 (i := 81) rfl rfl
theorem w_563 : Cond.instanceMethod yX7_ring ∈ gT := gT3 (i := 82) rfl rfl
theorem w_564 : Cond.selects RX7 yX7_ring yX7_ring ∈ gT := gT3 (i := 83) rfl rfl
theorem w_565 : Cond.code yX7_ring cX7_ring 2 (some .int) ∈ gT := gT3 (i := 84) rfl rfl
theorem w_566 : Cond.methodLink RX7 188 yX5_inRing ∈ gT := gT3 (i := 85) rfl rfl
theorem w_567 : Cond.instanceMethod yX5_inRing ∈ gT := gT3 (i := 86) rfl rfl
theorem w_568 : Cond.selects RX5 yX5_inRing yX5_inRing ∈ gT := gT3 (i := 87) rfl rfl
theorem w_569 : Cond.code yX5_inRing cX5_inRing 4 (some .int) ∈ gT := gT3 (i := 88) rfl rfl
theorem w_570 : Cond.methodLink RX7 191 yX5_ringLength ∈ gT := gT3 (i := 89) rfl rfl
theorem w_571 : Cond.instanceMethod yX5_ringLength ∈ gT := gT3 (i := 90) rfl rfl
theorem w_572 : Cond.selects RX5 yX5_ringLength yX5_ringLength ∈ gT := gT3 (i := 91) rfl rfl
theorem w_573 : Cond.code yX5_ringLength cX5_ringLength 4 (some .int) ∈ gT := gT3 (i := 92) rfl rfl
theorem w_574 : Cond.methodLink RL 76 yX7_rings ∈ gT := gT3 (i := 93) rfl rfl
theorem w_575 : Cond.instanceMethod yX7_rings ∈ gT := gT3 (i := 94) rfl rfl
theorem w_576 : Cond.selects RX7 yX7_rings yX7_rings ∈ gT := gT3 (i := 95) rfl rfl
theorem w_577 : Cond.code yX7_rings cX7_rings 3 (some .int) ∈ gT := gT3 (i := 96) rfl rfl
theorem w_578 : Cond.methodLink RX7 194 yX5_isLeastOfRing ∈ gT := gT3 (i := 97) rfl rfl
theorem w_579 : Cond.instanceMethod yX5_isLeastOfRing ∈ gT := gT3 (i := 98) rfl rfl
theorem w_580 : Cond.selects RX5 yX5_isLeastOfRing yX5_isLeastOfRing ∈ gT := gT3 (i := 99) rfl rfl
theorem w_581 : Cond.code yX5_isLeastOfRing cX5_isLeastOfRing 4 (some .boolean) ∈ gT := gT3 (i := 100) rfl rfl
theorem w_582 : Cond.methodLink RL 81 yX7_steps ∈ gT := gT3 (i := 101) rfl rfl
theorem w_583 : Cond.instanceMethod yX7_steps ∈ gT := gT3 (i := 102) rfl rfl
theorem w_584 : Cond.selects RX7 yX7_steps yX7_steps ∈ gT := gT3 (i := 103) rfl rfl
theorem w_585 : Cond.code yX7_steps cX7_steps 5 (some .int) ∈ gT := gT3 (i := 104) rfl rfl
theorem w_586 : Cond.methodLink RL 85 yX7_unblown ∈ gT := gT3 (i := 105) rfl rfl
theorem w_587 : Cond.instanceMethod yX7_unblown ∈ gT := gT3 (i := 106) rfl rfl
theorem w_588 : Cond.selects RX7 yX7_unblown yX7_unblown ∈ gT := gT3 (i := 107) rfl rfl
theorem w_589 : Cond.code yX7_unblown cX7_unblown 3 (some .int) ∈ gT := gT3 (i := 108) rfl rfl
theorem w_590 : Cond.methodLink RL 89 yX7_holds ∈ gT := gT3 (i := 109) rfl rfl
theorem w_591 : Cond.instanceMethod yX7_holds ∈ gT := gT3 (i := 110) rfl rfl
theorem w_592 : Cond.selects RX7 yX7_holds yX7_holds ∈ gT := gT3 (i := 111) rfl rfl
theorem w_593 : Cond.code yX7_holds cX7_holds 5 (some .int) ∈ gT := gT3 (i := 112) rfl rfl
theorem w_594 : Cond.methodLink RX7 197 yX7_refusedRhythms ∈ gT := gT3 (i := 113) rfl rfl
theorem w_596 : Cond.instanceMethod yX7_refusedRhythms ∈ gT := gT3 (i := 115) rfl rfl
theorem w_597 : Cond.code yX7_refusedRhythms cX7_refusedRhythms 4 (some .int) ∈ gT := gT3 (i := 116) rfl rfl
theorem w_598 : Cond.methodLink RX7 249 yX7_refusedSeen ∈ gT := gT3 (i := 117) rfl rfl
theorem w_600 : Cond.instanceMethod yX7_refusedSeen ∈ gT := gT3 (i := 119) rfl rfl
theorem w_601 : Cond.code yX7_refusedSeen cX7_refusedSeen 3 (some .int) ∈ gT := gT3 (i := 120) rfl rfl
theorem w_602 : Cond.methodLink RX7 200 yX3_takeRow ∈ gT := gT3 (i := 121) rfl rfl
theorem w_603 : Cond.instanceMethod yX3_takeRow ∈ gT := gT3 (i := 122) rfl rfl
theorem w_604 : Cond.selects RX3 yX3_takeRow yX3_takeRow ∈ gT := gT3 (i := 123) rfl rfl
theorem w_605 : Cond.code yX3_takeRow cX3_takeRow 4 none ∈ gT := gT3 (i := 124) rfl rfl
theorem w_606 : Cond.methodLink RX3 31 yX3_everyTime ∈ gT := gT3 (i := 125) rfl rfl
theorem w_608 : Cond.instanceMethod yX3_everyTime ∈ gT := gT3 (i := 127) rfl rfl
theorem w_609 : Cond.code yX3_everyTime cX3_everyTime 1 (some .int) ∈ gT := gT3 (i := 128) rfl rfl
theorem w_610 : Cond.methodLink RX7 204 yX3_judgeOn ∈ gT := gT3 (i := 129) rfl rfl
theorem w_611 : Cond.instanceMethod yX3_judgeOn ∈ gT := gT3 (i := 130) rfl rfl
theorem w_612 : Cond.selects RX3 yX3_judgeOn yX3_judgeOn ∈ gT := gT3 (i := 131) rfl rfl
theorem w_613 : Cond.code yX3_judgeOn cX3_judgeOn 4 none ∈ gT := gT3 (i := 132) rfl rfl
theorem w_614 : Cond.methodLink RX3 52 yX3_breaksBehind ∈ gT := gT3 (i := 133) rfl rfl
theorem w_616 : Cond.instanceMethod yX3_breaksBehind ∈ gT := gT3 (i := 135) rfl rfl
theorem w_617 : Cond.code yX3_breaksBehind cX3_breaksBehind 7 (some .int) ∈ gT := gT3 (i := 136) rfl rfl
theorem w_618 : Cond.methodLink RX3 56 yX3_weighChanges ∈ gT := gT3 (i := 137) rfl rfl
theorem w_620 : Cond.instanceMethod yX3_weighChanges ∈ gT := gT3 (i := 139) rfl rfl
theorem w_621 : Cond.code yX3_weighChanges cX3_weighChanges 5 none ∈ gT := gT3 (i := 140) rfl rfl
theorem t_622 : Cond.methodLinkNest RX3 77 yX7_isIn "BlownNext" ∈ lw_tbl := tT3 (i := 141) rfl
theorem t_623 : Cond.methodLinkNest RX3 63 yX7_bounded "BlownNext" ∈ lw_tbl := tT3 (i := 142) rfl
theorem w_624 : Cond.methodLink RX3 67 yX5_isWorkableAt ∈ gT := gT3 (i := 143) rfl rfl
theorem w_625 : Cond.methodLink RL 94 yX7_even ∈ gT := gT3 (i := 144) rfl rfl
theorem w_626 : Cond.instanceMethod yX7_even ∈ gT := gT3 (i := 145) rfl rfl
theorem w_627 : Cond.selects RX7 yX7_even yX7_even ∈ gT := gT3 (i := 146) rfl rfl
theorem w_628 : Cond.code yX7_even cX7_even 4 (some .int) ∈ gT := gT3 (i := 147) rfl rfl
theorem w_629 : Cond.methodLink RX7 213 yX3_evenOnes ∈ gT := gT3 (i := 148) rfl rfl
theorem w_630 : Cond.instanceMethod yX3_evenOnes ∈ gT := gT3 (i := 149) rfl rfl
theorem w_631 : Cond.selects RX3 yX3_evenOnes yX3_evenOnes ∈ gT := gT3 (i := 150) rfl rfl
theorem w_632 : Cond.code yX3_evenOnes cX3_evenOnes 6 (some .int) ∈ gT := gT3 (i := 151) rfl rfl
theorem w_633 : Cond.methodLink RL 98 yX7_wave ∈ gT := gT3 (i := 152) rfl rfl
theorem w_634 : Cond.instanceMethod yX7_wave ∈ gT := gT3 (i := 153) rfl rfl
theorem w_635 : Cond.selects RX7 yX7_wave yX7_wave ∈ gT := gT3 (i := 154) rfl rfl
theorem w_636 : Cond.code yX7_wave cX7_wave 3 (some .int) ∈ gT := gT3 (i := 155) rfl rfl
theorem w_637 : Cond.methodLink RX7 217 yX7_waveBreaksBehind ∈ gT := gT3 (i := 156) rfl rfl
theorem w_639 : Cond.instanceMethod yX7_waveBreaksBehind ∈ gT := gT3 (i := 158) rfl rfl
theorem w_640 : Cond.code yX7_waveBreaksBehind cX7_waveBreaksBehind 3 (some .int) ∈ gT := gT3 (i := 159) rfl rfl
theorem w_641 : Cond.methodLink RX7 220 yX3_takeWave ∈ gT := gT3 (i := 160) rfl rfl
theorem w_642 : Cond.instanceMethod yX3_takeWave ∈ gT := gT3 (i := 161) rfl rfl
theorem w_643 : Cond.selects RX3 yX3_takeWave yX3_takeWave ∈ gT := gT3 (i := 162) rfl rfl
theorem w_644 : Cond.code yX3_takeWave cX3_takeWave 4 none ∈ gT := gT3 (i := 163) rfl rfl
theorem w_645 : Cond.methodLink RX3 35 yJ9_floorMod_7cf53 ∈ gT := gT3 (i := 164) rfl rfl
theorem w_646 : Cond.static yJ9_floorMod_7cf53 ∈ gT := gT3 (i := 165) rfl rfl
theorem w_647 : Cond.code yJ9_floorMod_7cf53 cJ9_floorMod_7cf53 3 (some .int) ∈ gT := gT3 (i := 166) rfl rfl
theorem w_648 : Cond.methodLink RL 102 yX7_bestWave ∈ gT := gT3 (i := 167) rfl rfl
theorem w_649 : Cond.instanceMethod yX7_bestWave ∈ gT := gT3 (i := 168) rfl rfl
theorem w_650 : Cond.selects RX7 yX7_bestWave yX7_bestWave ∈ gT := gT3 (i := 169) rfl rfl
theorem w_651 : Cond.code yX7_bestWave cX7_bestWave 6 (some .int) ∈ gT := gT3 (i := 170) rfl rfl
theorem w_652 : Cond.methodLink RL 106 yX7_bestRound ∈ gT := gT3 (i := 171) rfl rfl
theorem w_653 : Cond.instanceMethod yX7_bestRound ∈ gT := gT3 (i := 172) rfl rfl
theorem w_654 : Cond.selects RX7 yX7_bestRound yX7_bestRound ∈ gT := gT3 (i := 173) rfl rfl
theorem w_655 : Cond.code yX7_bestRound cX7_bestRound 4 (some .int) ∈ gT := gT3 (i := 174) rfl rfl
theorem w_656 : Cond.methodLink RX7 223 yX3_seekBestRound ∈ gT := gT3 (i := 175) rfl rfl
theorem w_657 : Cond.instanceMethod yX3_seekBestRound ∈ gT := gT3 (i := 176) rfl rfl
theorem w_658 : Cond.selects RX3 yX3_seekBestRound yX3_seekBestRound ∈ gT := gT3 (i := 177) rfl rfl
theorem w_659 : Cond.code yX3_seekBestRound cX3_seekBestRound 7 (some .int) ∈ gT := gT3 (i := 178) rfl rfl
theorem w_660 : Cond.methodLink RX3 83 yJ6_bitCount_0f7a4 ∈ gT := gT3 (i := 179) rfl rfl
theorem w_661 : Cond.static yJ6_bitCount_0f7a4 ∈ gT := gT3 (i := 180) rfl rfl
theorem w_662 : Cond.code yJ6_bitCount_0f7a4 cJ6_bitCount_0f7a4 1 (some .int) ∈ gT := gT3 (i := 181) rfl rfl
theorem w_663 : Cond.constant RJ6 265 (1431655765) ∈ gT := gT3 (i := 182) rfl rfl
theorem w_664 : Cond.constant RJ6 266 (858993459) ∈ gT := gT3 (i := 183) rfl rfl
theorem w_665 : Cond.constant RJ6 267 (252645135) ∈ gT := gT3 (i := 184) rfl rfl
theorem w_666 : Cond.methodLink RX3 88 yX3_holdAll ∈ gT := gT3 (i := 185) rfl rfl
theorem w_668 : Cond.instanceMethod yX3_holdAll ∈ gT := gT3 (i := 187) rfl rfl
theorem w_669 : Cond.code yX3_holdAll cX3_holdAll 3 (some .boolean) ∈ gT := gT3 (i := 188) rfl rfl
theorem w_670 : Cond.methodLink RX3 92 arraycopyName ∈ gT := gT3 (i := 189) rfl rfl
theorem w_671 : Cond.static arraycopyName ∈ gT := gT3 (i := 190) rfl rfl
theorem w_672 : Cond.native arraycopyName ∈ gT := gT3 (i := 191) rfl rfl
theorem w_673 : Cond.methodLink RL 110 yX7_peace ∈ gT := gT3 (i := 192) rfl rfl
theorem w_674 : Cond.instanceMethod yX7_peace ∈ gT := gT3 (i := 193) rfl rfl
theorem w_675 : Cond.selects RX7 yX7_peace yX7_peace ∈ gT := gT3 (i := 194) rfl rfl
theorem w_676 : Cond.code yX7_peace cX7_peace 6 (some .int) ∈ gT := gT3 (i := 195) rfl rfl
theorem w_677 : Cond.methodLink RX7 230 yX5_payTogether ∈ gT := gT3 (i := 196) rfl rfl
theorem w_678 : Cond.instanceMethod yX5_payTogether ∈ gT := gT3 (i := 197) rfl rfl
theorem w_679 : Cond.selects RX5 yX5_payTogether yX5_payTogether ∈ gT := gT3 (i := 198) rfl rfl
theorem w_680 : Cond.code yX5_payTogether cX5_payTogether 4 (some .int) ∈ gT := gT3 (i := 199) rfl rfl
theorem w_681 : Cond.methodLink RX5 113 yJ6_bitCount_0f7a4 ∈ gT := gT3 (i := 200) rfl rfl
theorem w_682 : Cond.methodLink RX7 233 yX5_everyone ∈ gT := gT3 (i := 201) rfl rfl
theorem w_683 : Cond.methodLink RL 114 yX7_selfish ∈ gT := gT3 (i := 202) rfl rfl
theorem w_684 : Cond.instanceMethod yX7_selfish ∈ gT := gT3 (i := 203) rfl rfl
theorem w_685 : Cond.selects RX7 yX7_selfish yX7_selfish ∈ gT := gT3 (i := 204) rfl rfl
theorem w_686 : Cond.code yX7_selfish cX7_selfish 4 (some .int) ∈ gT := gT3 (i := 205) rfl rfl
theorem w_687 : Cond.methodLink RX7 236 yX5_isSelfish ∈ gT := gT3 (i := 206) rfl rfl
theorem w_688 : Cond.instanceMethod yX5_isSelfish ∈ gT := gT3 (i := 207) rfl rfl
theorem w_689 : Cond.selects RX5 yX5_isSelfish yX5_isSelfish ∈ gT := gT3 (i := 208) rfl rfl
theorem w_690 : Cond.code yX5_isSelfish cX5_isSelfish 3 (some .boolean) ∈ gT := gT3 (i := 209) rfl rfl
theorem w_691 : Cond.methodLink RX5 118 yX5_payOf ∈ gT := gT3 (i := 210) rfl rfl
theorem w_693 : Cond.instanceMethod yX5_payOf ∈ gT := gT3 (i := 212) rfl rfl
theorem w_694 : Cond.code yX5_payOf cX5_payOf 4 (some .int) ∈ gT := gT3 (i := 213) rfl rfl
theorem w_695 : Cond.methodLink RX5 110 yX5_heatBehind ∈ gT := gT3 (i := 214) rfl rfl
theorem w_696 : Cond.instanceMethod yX5_heatBehind ∈ gT := gT3 (i := 215) rfl rfl
theorem w_697 : Cond.selects RX5 yX5_heatBehind yX5_heatBehind ∈ gT := gT3 (i := 216) rfl rfl
theorem w_698 : Cond.code yX5_heatBehind cX5_heatBehind 3 (some .int) ∈ gT := gT3 (i := 217) rfl rfl
theorem w_699 : Cond.methodLink RX5 73 yX5_blastOn ∈ gT := gT3 (i := 218) rfl rfl
theorem w_700 : Cond.instanceMethod yX5_blastOn ∈ gT := gT3 (i := 219) rfl rfl
theorem w_701 : Cond.selects RX5 yX5_blastOn yX5_blastOn ∈ gT := gT3 (i := 220) rfl rfl
theorem w_702 : Cond.code yX5_blastOn cX5_blastOn 5 (some .int) ∈ gT := gT3 (i := 221) rfl rfl
theorem w_703 : Cond.methodLink RL 118 yX7_soonest ∈ gT := gT3 (i := 222) rfl rfl
theorem w_704 : Cond.instanceMethod yX7_soonest ∈ gT := gT3 (i := 223) rfl rfl
theorem w_705 : Cond.selects RX7 yX7_soonest yX7_soonest ∈ gT := gT3 (i := 224) rfl rfl
theorem w_706 : Cond.code yX7_soonest cX7_soonest 1 (some .int) ∈ gT := gT3 (i := 225) rfl rfl
theorem w_707 : Cond.classLink RX7 243 RX4 ∈ gT := gT3 (i := 226) rfl rfl
theorem w_708 : Cond.instantiable RX4 7 ∈ gT := gT3 (i := 227) rfl rfl
theorem t_709 : Cond.methodLinkNest RX7 245 yX4_init "BlownNext" ∈ lw_tbl := tT3 (i := 228) rfl
theorem w_710 : Cond.instanceMethod yX4_init ∈ gT := gT3 (i := 229) rfl rfl
theorem w_711 : Cond.code yX4_init cX4_init 1 none ∈ gT := gT3 (i := 230) rfl rfl
theorem w_712 : Cond.methodLink RX4 5 objectInit ∈ gT := gT3 (i := 231) rfl rfl
theorem w_713 : Cond.fieldLink RX4 11 "BlownNext$Search" "states" "[J" ∈ gT := gT3 (i := 232) rfl rfl
theorem w_714 : Cond.fieldLink RX4 15 "BlownNext$Search" "slots" "[I" ∈ gT := gT3 (i := 233) rfl rfl
theorem w_715 : Cond.fieldLink RX4 37 "BlownNext$Search" "met" "I" ∈ gT := gT3 (i := 234) rfl rfl
theorem w_716 : Cond.fieldLink RX4 19 "BlownNext$Search" "heat" "[I" ∈ gT := gT3 (i := 235) rfl rfl
theorem w_717 : Cond.fieldLink RX4 22 "BlownNext$Search" "strokes" "[I" ∈ gT := gT3 (i := 236) rfl rfl
theorem w_718 : Cond.fieldLink RX4 25 "BlownNext$Search" "heatNext" "[I" ∈ gT := gT3 (i := 237) rfl rfl
theorem w_719 : Cond.fieldLink RX4 28 "BlownNext$Search" "change" "[I" ∈ gT := gT3 (i := 238) rfl rfl
theorem w_720 : Cond.laysFinal RX4 "BlownNext$Search" "states" "[J" ∈ gT := gT3 (i := 239) rfl rfl
theorem w_722 : Cond.laysFinal RX4 "BlownNext$Search" "slots" "[I" ∈ gT := gT4 (i := 1) rfl rfl
theorem w_724 : Cond.lays RX4 "BlownNext$Search" "met" "I" ∈ gT := gT4 (i := 3) rfl rfl
theorem w_726 : Cond.laysFinal RX4 "BlownNext$Search" "heat" "[I" ∈ gT := gT4 (i := 5) rfl rfl
theorem w_728 : Cond.laysFinal RX4 "BlownNext$Search" "strokes" "[I" ∈ gT := gT4 (i := 7) rfl rfl
theorem w_730 : Cond.laysFinal RX4 "BlownNext$Search" "heatNext" "[I" ∈ gT := gT4 (i := 9) rfl rfl
theorem w_732 : Cond.laysFinal RX4 "BlownNext$Search" "change" "[I" ∈ gT := gT4 (i := 11) rfl rfl
theorem w_735 : Cond.methodLink RX7 246 yX4_minutesToEnd ∈ gT := gT4 (i := 14) rfl rfl
theorem w_736 : Cond.instanceMethod yX4_minutesToEnd ∈ gT := gT4 (i := 15) rfl rfl
theorem w_737 : Cond.selects RX4 yX4_minutesToEnd yX4_minutesToEnd ∈ gT := gT4 (i := 16) rfl rfl
theorem w_738 : Cond.code yX4_minutesToEnd cX4_minutesToEnd 6 (some .int) ∈ gT := gT4 (i := 17) rfl rfl
theorem w_739 : Cond.methodLink RX4 31 yJ7_fill_53178 ∈ gT := gT4 (i := 18) rfl rfl
theorem w_740 : Cond.methodLink RX4 41 yX4_weighChanges ∈ gT := gT4 (i := 19) rfl rfl
theorem w_742 : Cond.instanceMethod yX4_weighChanges ∈ gT := gT4 (i := 21) rfl rfl
theorem w_743 : Cond.code yX4_weighChanges cX4_weighChanges 4 none ∈ gT := gT4 (i := 22) rfl rfl
theorem w_744 : Cond.methodLink RX4 56 yX5_everyone ∈ gT := gT4 (i := 23) rfl rfl
theorem w_745 : Cond.methodLink RX4 65 yX5_blastOn ∈ gT := gT4 (i := 24) rfl rfl
theorem w_746 : Cond.methodLink RX4 45 yX4_meetPresent ∈ gT := gT4 (i := 25) rfl rfl
theorem w_748 : Cond.instanceMethod yX4_meetPresent ∈ gT := gT4 (i := 27) rfl rfl
theorem w_749 : Cond.code yX4_meetPresent cX4_meetPresent 5 none ∈ gT := gT4 (i := 28) rfl rfl
theorem w_750 : Cond.methodLink RX4 77 yJ9_min_7cf53 ∈ gT := gT4 (i := 29) rfl rfl
theorem w_751 : Cond.methodLink RX4 82 yX4_packed ∈ gT := gT4 (i := 30) rfl rfl
theorem w_752 : Cond.static yX4_packed ∈ gT := gT4 (i := 31) rfl rfl
theorem w_753 : Cond.code yX4_packed cX4_packed 3 (some .long) ∈ gT := gT4 (i := 32) rfl rfl
theorem w_754 : Cond.methodLink RX4 86 yX4_meet ∈ gT := gT4 (i := 33) rfl rfl
theorem w_756 : Cond.instanceMethod yX4_meet ∈ gT := gT4 (i := 35) rfl rfl
theorem w_757 : Cond.code yX4_meet cX4_meet 5 none ∈ gT := gT4 (i := 36) rfl rfl
theorem w_758 : Cond.constantLong RX4 121 (-7046029254386353131) ∈ gT := gT4 (i := 37) rfl rfl
theorem w_759 : Cond.methodLink RX4 48 yX4_endsNext ∈ gT := gT4 (i := 38) rfl rfl
theorem w_761 : Cond.instanceMethod yX4_endsNext ∈ gT := gT4 (i := 40) rfl rfl
theorem w_762 : Cond.code yX4_endsNext cX4_endsNext 6 (some .boolean) ∈ gT := gT4 (i := 41) rfl rfl
theorem w_763 : Cond.methodLink RX4 94 yX4_unpack ∈ gT := gT4 (i := 42) rfl rfl
theorem w_765 : Cond.instanceMethod yX4_unpack ∈ gT := gT4 (i := 44) rfl rfl
theorem w_766 : Cond.code yX4_unpack cX4_unpack 6 none ∈ gT := gT4 (i := 45) rfl rfl
theorem w_767 : Cond.methodLink RX4 97 yX4_canStrike ∈ gT := gT4 (i := 46) rfl rfl
theorem w_769 : Cond.instanceMethod yX4_canStrike ∈ gT := gT4 (i := 48) rfl rfl
theorem w_770 : Cond.code yX4_canStrike cX4_canStrike 3 (some .boolean) ∈ gT := gT4 (i := 49) rfl rfl
theorem w_771 : Cond.methodLink RX4 90 yX5_isWorkableAt ∈ gT := gT4 (i := 50) rfl rfl
theorem w_772 : Cond.methodLink RX4 52 yX4_goOnFrom ∈ gT := gT4 (i := 51) rfl rfl
theorem w_774 : Cond.instanceMethod yX4_goOnFrom ∈ gT := gT4 (i := 53) rfl rfl
theorem w_775 : Cond.code yX4_goOnFrom cX4_goOnFrom 7 none ∈ gT := gT4 (i := 54) rfl rfl
theorem t_776 : Cond.methodLinkNest RX4 101 yX7_bounded "BlownNext" ∈ lw_tbl := tT4 (i := 55) rfl
theorem w_777 : Cond.methodLink RX4 105 yX4_behindStrokes ∈ gT := gT4 (i := 56) rfl rfl
theorem w_779 : Cond.instanceMethod yX4_behindStrokes ∈ gT := gT4 (i := 58) rfl rfl
theorem w_780 : Cond.code yX4_behindStrokes cX4_behindStrokes 7 (some .long) ∈ gT := gT4 (i := 59) rfl rfl
theorem t_781 : Cond.methodLinkNest RX4 109 yX7_isIn "BlownNext" ∈ lw_tbl := tT4 (i := 60) rfl
theorem w_782 : Cond.methodLink RX4 118 yJ9_max_7cf53 ∈ gT := gT4 (i := 61) rfl rfl
theorem w_783 : Cond.methodLink RL 122 yX7_seen ∈ gT := gT4 (i := 62) rfl rfl
theorem w_784 : Cond.instanceMethod yX7_seen ∈ gT := gT4 (i := 63) rfl rfl
theorem w_785 : Cond.selects RX7 yX7_seen yX7_seen ∈ gT := gT4 (i := 64) rfl rfl
theorem w_786 : Cond.code yX7_seen cX7_seen 5 (some .int) ∈ gT := gT4 (i := 65) rfl rfl
theorem w_787 : Cond.methodLink RX7 252 yX5_comesAs ∈ gT := gT4 (i := 66) rfl rfl
theorem w_788 : Cond.instanceMethod yX5_comesAs ∈ gT := gT4 (i := 67) rfl rfl
theorem w_789 : Cond.selects RX5 yX5_comesAs yX5_comesAs ∈ gT := gT4 (i := 68) rfl rfl
theorem w_790 : Cond.code yX5_comesAs cX5_comesAs 4 (some .boolean) ∈ gT := gT4 (i := 69) rfl rfl
theorem w_791 : Cond.methodLink RL 126 yX7_sure ∈ gT := gT4 (i := 70) rfl rfl
theorem w_792 : Cond.instanceMethod yX7_sure ∈ gT := gT4 (i := 71) rfl rfl
theorem w_793 : Cond.selects RX7 yX7_sure yX7_sure ∈ gT := gT4 (i := 72) rfl rfl
theorem w_794 : Cond.code yX7_sure cX7_sure 7 (some .int) ∈ gT := gT4 (i := 73) rfl rfl
theorem w_795 : Cond.methodLink RL 131 yX7_ropes ∈ gT := gT4 (i := 74) rfl rfl
theorem w_796 : Cond.instanceMethod yX7_ropes ∈ gT := gT4 (i := 75) rfl rfl
theorem w_797 : Cond.selects RX7 yX7_ropes yX7_ropes ∈ gT := gT4 (i := 76) rfl rfl
theorem w_798 : Cond.code yX7_ropes cX7_ropes 2 (some .int) ∈ gT := gT4 (i := 77) rfl rfl
theorem w_799 : Cond.methodLink RX7 256 yX0_seekBest ∈ gT := gT4 (i := 78) rfl rfl
theorem w_800 : Cond.instanceMethod yX0_seekBest ∈ gT := gT4 (i := 79) rfl rfl
theorem w_801 : Cond.selects RX0 yX0_seekBest yX0_seekBest ∈ gT := gT4 (i := 80) rfl rfl
theorem w_802 : Cond.code yX0_seekBest cX0_seekBest 2 none ∈ gT := gT4 (i := 81) rfl rfl
theorem w_803 : Cond.methodLink RX0 22 yJ7_fill_53178 ∈ gT := gT4 (i := 82) rfl rfl
theorem w_804 : Cond.methodLink RX0 28 yX0_layFrom ∈ gT := gT4 (i := 83) rfl rfl
theorem w_806 : Cond.instanceMethod yX0_layFrom ∈ gT := gT4 (i := 85) rfl rfl
theorem w_807 : Cond.code yX0_layFrom cX0_layFrom 7 none ∈ gT := gT4 (i := 86) rfl rfl
theorem w_808 : Cond.methodLink RX0 37 arraycopyName ∈ gT := gT4 (i := 87) rfl rfl
theorem t_809 : Cond.methodLinkNest RX0 43 yX7_isIn "BlownNext" ∈ lw_tbl := tT4 (i := 88) rfl
theorem w_810 : Cond.methodLink RX0 47 yX0_closesTooSoon ∈ gT := gT4 (i := 89) rfl rfl
theorem w_812 : Cond.instanceMethod yX0_closesTooSoon ∈ gT := gT4 (i := 91) rfl rfl
theorem w_813 : Cond.code yX0_closesTooSoon cX0_closesTooSoon 6 (some .boolean) ∈ gT := gT4 (i := 92) rfl rfl
theorem w_814 : Cond.methodLink RX0 57 yJ9_abs_0f7a4 ∈ gT := gT4 (i := 93) rfl rfl
theorem w_815 : Cond.static yJ9_abs_0f7a4 ∈ gT := gT4 (i := 94) rfl rfl
theorem w_816 : Cond.code yJ9_abs_0f7a4 cJ9_abs_0f7a4 1 (some .int) ∈ gT := gT4 (i := 95) rfl rfl
theorem w_817 : Cond.methodLink RL 135 yX7_lazy ∈ gT := gT4 (i := 96) rfl rfl
theorem w_818 : Cond.instanceMethod yX7_lazy ∈ gT := gT4 (i := 97) rfl rfl
theorem w_819 : Cond.selects RX7 yX7_lazy yX7_lazy ∈ gT := gT4 (i := 98) rfl rfl
theorem w_820 : Cond.code yX7_lazy cX7_lazy 4 (some .int) ∈ gT := gT4 (i := 99) rfl rfl
theorem w_821 : Cond.methodLink RL 139 yX7_stranger ∈ gT := gT4 (i := 100) rfl rfl
theorem w_822 : Cond.instanceMethod yX7_stranger ∈ gT := gT4 (i := 101) rfl rfl
theorem w_823 : Cond.selects RX7 yX7_stranger yX7_stranger ∈ gT := gT4 (i := 102) rfl rfl
theorem w_824 : Cond.code yX7_stranger cX7_stranger 5 (some .int) ∈ gT := gT4 (i := 103) rfl rfl
theorem w_825 : Cond.methodLink RX7 263 yX7_refusedStranger ∈ gT := gT4 (i := 104) rfl rfl
theorem w_827 : Cond.instanceMethod yX7_refusedStranger ∈ gT := gT4 (i := 106) rfl rfl
theorem w_828 : Cond.code yX7_refusedStranger cX7_refusedStranger 3 (some .int) ∈ gT := gT4 (i := 107) rfl rfl
theorem w_829 : Cond.methodLink RL 143 yX7_bestPlace ∈ gT := gT4 (i := 108) rfl rfl
theorem w_830 : Cond.instanceMethod yX7_bestPlace ∈ gT := gT4 (i := 109) rfl rfl
theorem w_831 : Cond.selects RX7 yX7_bestPlace yX7_bestPlace ∈ gT := gT4 (i := 110) rfl rfl
theorem w_832 : Cond.code yX7_bestPlace cX7_bestPlace 8 (some .int) ∈ gT := gT4 (i := 111) rfl rfl
theorem w_833 : Cond.methodLink RL 147 yX7_swapped ∈ gT := gT4 (i := 112) rfl rfl
theorem w_834 : Cond.instanceMethod yX7_swapped ∈ gT := gT4 (i := 113) rfl rfl
theorem w_835 : Cond.selects RX7 yX7_swapped yX7_swapped ∈ gT := gT4 (i := 114) rfl rfl
theorem w_836 : Cond.code yX7_swapped cX7_swapped 10 (some .int) ∈ gT := gT4 (i := 115) rfl rfl
theorem w_837 : Cond.methodLink RX7 266 yX7_doneBySwapped ∈ gT := gT4 (i := 116) rfl rfl
theorem w_839 : Cond.instanceMethod yX7_doneBySwapped ∈ gT := gT4 (i := 118) rfl rfl
theorem w_840 : Cond.code yX7_doneBySwapped cX7_doneBySwapped 4 (some .int) ∈ gT := gT4 (i := 119) rfl rfl
theorem w_841 : Cond.methodLink RL 151 yX7_when ∈ gT := gT4 (i := 120) rfl rfl
theorem w_842 : Cond.instanceMethod yX7_when ∈ gT := gT4 (i := 121) rfl rfl
theorem w_843 : Cond.selects RX7 yX7_when yX7_when ∈ gT := gT4 (i := 122) rfl rfl
theorem w_844 : Cond.code yX7_when cX7_when 3 (some .int) ∈ gT := gT4 (i := 123) rfl rfl
theorem w_845 : Cond.methodLink RX7 270 yX5_passByCustom ∈ gT := gT4 (i := 124) rfl rfl
theorem w_846 : Cond.methodLink RL 155 yX7_warm ∈ gT := gT4 (i := 125) rfl rfl
theorem w_847 : Cond.instanceMethod yX7_warm ∈ gT := gT4 (i := 126) rfl rfl
theorem w_848 : Cond.selects RX7 yX7_warm yX7_warm ∈ gT := gT4 (i := 127) rfl rfl
theorem w_849 : Cond.code yX7_warm cX7_warm 5 (some .int) ∈ gT := gT4 (i := 128) rfl rfl
theorem w_850 : Cond.methodLink RX7 273 yX5_blastOn ∈ gT := gT4 (i := 129) rfl rfl
theorem w_851 : Cond.methodLink RL 159 yX7_cold ∈ gT := gT4 (i := 130) rfl rfl
theorem w_852 : Cond.instanceMethod yX7_cold ∈ gT := gT4 (i := 131) rfl rfl
theorem w_853 : Cond.selects RX7 yX7_cold yX7_cold ∈ gT := gT4 (i := 132) rfl rfl
theorem w_854 : Cond.code yX7_cold cX7_cold 3 (some .int) ∈ gT := gT4 (i := 133) rfl rfl
theorem w_855 : Cond.methodLink RL 163 yX7_numbers ∈ gT := gT4 (i := 134) rfl rfl
theorem w_856 : Cond.instanceMethod yX7_numbers ∈ gT := gT4 (i := 135) rfl rfl
theorem w_857 : Cond.selects RX7 yX7_numbers yX7_numbers ∈ gT := gT4 (i := 136) rfl rfl
theorem w_858 : Cond.code yX7_numbers cX7_numbers 4 (some .int) ∈ gT := gT4 (i := 137) rfl rfl
theorem w_859 : Cond.methodLink RX7 276 yX1_begin ∈ gT := gT4 (i := 138) rfl rfl
theorem w_860 : Cond.instanceMethod yX1_begin ∈ gT := gT4 (i := 139) rfl rfl
theorem w_861 : Cond.selects RX1 yX1_begin yX1_begin ∈ gT := gT4 (i := 140) rfl rfl
theorem w_862 : Cond.code yX1_begin cX1_begin 3 none ∈ gT := gT4 (i := 141) rfl rfl
theorem w_863 : Cond.methodLink RX1 26 yJ7_fill_d0a16 ∈ gT := gT4 (i := 142) rfl rfl
theorem w_864 : Cond.static yJ7_fill_d0a16 ∈ gT := gT4 (i := 143) rfl rfl
theorem w_865 : Cond.code yJ7_fill_d0a16 cJ7_fill_d0a16 5 none ∈ gT := gT4 (i := 144) rfl rfl
theorem w_866 : Cond.methodLink RL 169 yX7_write ∈ gT := gT4 (i := 145) rfl rfl
theorem w_867 : Cond.instanceMethod yX7_write ∈ gT := gT4 (i := 146) rfl rfl
theorem w_868 : Cond.selects RX7 yX7_write yX7_write ∈ gT := gT4 (i := 147) rfl rfl
theorem w_869 : Cond.code yX7_write cX7_write 6 (some .long) ∈ gT := gT4 (i := 148) rfl rfl
theorem w_870 : Cond.constantLong RX7 280 (-7) ∈ gT := gT4 (i := 149) rfl rfl
theorem w_871 : Cond.methodLink RX7 282 yX1_put ∈ gT := gT4 (i := 150) rfl rfl
theorem w_872 : Cond.instanceMethod yX1_put ∈ gT := gT4 (i := 151) rfl rfl
theorem w_873 : Cond.selects RX1 yX1_put yX1_put ∈ gT := gT4 (i := 152) rfl rfl
theorem w_874 : Cond.code yX1_put cX1_put 4 none ∈ gT := gT4 (i := 153) rfl rfl
theorem w_875 : Cond.methodLink RX1 32 yX1_cut ∈ gT := gT4 (i := 154) rfl rfl
theorem w_877 : Cond.instanceMethod yX1_cut ∈ gT := gT4 (i := 156) rfl rfl
theorem w_878 : Cond.code yX1_cut cX1_cut 3 (some .long) ∈ gT := gT4 (i := 157) rfl rfl
theorem w_879 : Cond.methodLink RL 174 yX7_copy ∈ gT := gT4 (i := 158) rfl rfl
theorem w_880 : Cond.instanceMethod yX7_copy ∈ gT := gT4 (i := 159) rfl rfl
theorem w_881 : Cond.selects RX7 yX7_copy yX7_copy ∈ gT := gT4 (i := 160) rfl rfl
theorem w_882 : Cond.code yX7_copy cX7_copy 4 (some .int) ∈ gT := gT4 (i := 161) rfl rfl
theorem w_883 : Cond.methodLink RL 178 yX7_image ∈ gT := gT4 (i := 162) rfl rfl
theorem w_884 : Cond.instanceMethod yX7_image ∈ gT := gT4 (i := 163) rfl rfl
theorem w_885 : Cond.selects RX7 yX7_image yX7_image ∈ gT := gT4 (i := 164) rfl rfl
theorem w_886 : Cond.code yX7_image cX7_image 2 (some .int) ∈ gT := gT4 (i := 165) rfl rfl
theorem w_887 : Cond.methodLink RX7 290 yX7_isImage ∈ gT := gT4 (i := 166) rfl rfl
theorem w_888 : Cond.static yX7_isImage ∈ gT := gT4 (i := 167) rfl rfl
theorem w_889 : Cond.code yX7_isImage cX7_isImage 1 (some .boolean) ∈ gT := gT4 (i := 168) rfl rfl
theorem w_890 : Cond.methodLink RL 182 yX7_restore ∈ gT := gT4 (i := 169) rfl rfl
theorem w_891 : Cond.instanceMethod yX7_restore ∈ gT := gT4 (i := 170) rfl rfl
theorem w_892 : Cond.selects RX7 yX7_restore yX7_restore ∈ gT := gT4 (i := 171) rfl rfl
theorem w_893 : Cond.code yX7_restore cX7_restore 2 (some .int) ∈ gT := gT4 (i := 172) rfl rfl
theorem w_894 : Cond.methodLink RL 186 yX7_count ∈ gT := gT4 (i := 173) rfl rfl
theorem w_895 : Cond.instanceMethod yX7_count ∈ gT := gT4 (i := 174) rfl rfl
theorem w_896 : Cond.selects RX7 yX7_count yX7_count ∈ gT := gT4 (i := 175) rfl rfl
theorem w_897 : Cond.code yX7_count cX7_count 2 (some .int) ∈ gT := gT4 (i := 176) rfl rfl
theorem w_898 : Cond.methodLink RX7 293 yX5_workable ∈ gT := gT4 (i := 177) rfl rfl
theorem w_899 : Cond.instanceMethod yX5_workable ∈ gT := gT4 (i := 178) rfl rfl
theorem w_900 : Cond.selects RX5 yX5_workable yX5_workable ∈ gT := gT4 (i := 179) rfl rfl
theorem w_901 : Cond.code yX5_workable cX5_workable 3 (some .int) ∈ gT := gT4 (i := 180) rfl rfl
theorem w_902 : Cond.methodLink RX7 296 yX5_heatTogether ∈ gT := gT4 (i := 181) rfl rfl
theorem w_903 : Cond.instanceMethod yX5_heatTogether ∈ gT := gT4 (i := 182) rfl rfl
theorem w_904 : Cond.selects RX5 yX5_heatTogether yX5_heatTogether ∈ gT := gT4 (i := 183) rfl rfl
theorem w_905 : Cond.code yX5_heatTogether cX5_heatTogether 3 (some .int) ∈ gT := gT4 (i := 184) rfl rfl
theorem w_906 : Cond.classLink RL 10 RX8 ∈ gT := gT4 (i := 185) rfl rfl
theorem w_907 : Cond.instantiable RX8 34 ∈ gT := gT4 (i := 186) rfl rfl
theorem w_908 : Cond.methodLink RL 12 yX8_init ∈ gT := gT4 (i := 187) rfl rfl
theorem w_909 : Cond.instanceMethod yX8_init ∈ gT := gT4 (i := 188) rfl rfl
theorem w_910 : Cond.code yX8_init cX8_init 1 none ∈ gT := gT4 (i := 189) rfl rfl
theorem w_911 : Cond.methodLink RX8 7 objectInit ∈ gT := gT4 (i := 190) rfl rfl
theorem w_912 : Cond.fieldLink RX8 1 "BlownNextModel" "thrown" "I" ∈ gT := gT4 (i := 191) rfl rfl
theorem w_913 : Cond.fieldLink RX8 13 "BlownNextModel" "all" "[I" ∈ gT := gT4 (i := 192) rfl rfl
theorem w_914 : Cond.fieldLink RX8 17 "BlownNextModel" "hasImage" "[Z" ∈ gT := gT4 (i := 193) rfl rfl
theorem w_915 : Cond.fieldLink RX8 21 "BlownNextModel" "tape" "[I" ∈ gT := gT4 (i := 194) rfl rfl
theorem w_916 : Cond.fieldLink RX8 24 "BlownNextModel" "fresh" "[I" ∈ gT := gT4 (i := 195) rfl rfl
theorem w_917 : Cond.fieldLink RX8 64 "BlownNextModel" "taped" "I" ∈ gT := gT4 (i := 196) rfl rfl
theorem w_918 : Cond.fieldLink RX8 82 "BlownNextModel" "at" "I" ∈ gT := gT4 (i := 197) rfl rfl
theorem w_919 : Cond.fieldLink RX8 85 "BlownNextModel" "behind" "I" ∈ gT := gT4 (i := 198) rfl rfl
theorem w_920 : Cond.fieldLink RX8 67 "BlownNextModel" "size" "I" ∈ gT := gT4 (i := 199) rfl rfl
theorem w_921 : Cond.fieldLink RX8 92 "BlownNextModel" "kind" "I" ∈ gT := gT4 (i := 200) rfl rfl
theorem w_922 : Cond.fieldLink RX8 105 "BlownNextModel" "number" "I" ∈ gT := gT4 (i := 201) rfl rfl
theorem w_923 : Cond.fieldLink RX8 108 "BlownNextModel" "wrong" "I" ∈ gT := gT4 (i := 202) rfl rfl
theorem w_924 : Cond.fieldLink RX8 111 "BlownNextModel" "wrongAt" "I" ∈ gT := gT4 (i := 203) rfl rfl
theorem w_925 : Cond.fieldLink RX8 145 "BlownNextModel" "faultKind" "I" ∈ gT := gT4 (i := 204) rfl rfl
theorem w_926 : Cond.fieldLink RX8 27 "BlownNextModel" "faultPlace" "I" ∈ gT := gT4 (i := 205) rfl rfl
theorem w_927 : Cond.fieldLink RX8 30 "BlownNextModel" "then" "[I" ∈ gT := gT4 (i := 206) rfl rfl
theorem w_928 : Cond.fieldLink RX8 177 "BlownNextModel" "burntMany" "I" ∈ gT := gT4 (i := 207) rfl rfl
theorem w_929 : Cond.fieldLink RX8 33 "BlownNextModel" "kept" "[I" ∈ gT := gT4 (i := 208) rfl rfl
theorem w_930 : Cond.fieldLink RX8 190 "BlownNextModel" "why" "I" ∈ gT := gT4 (i := 209) rfl rfl
theorem w_931 : Cond.fieldLink RX8 187 "BlownNextModel" "counted" "I" ∈ gT := gT4 (i := 210) rfl rfl
theorem w_932 : Cond.fieldLink RX8 36 "BlownNextModel" "rhythm" "[J" ∈ gT := gT4 (i := 211) rfl rfl
theorem w_933 : Cond.fieldLink RX8 230 "BlownNextModel" "whose" "I" ∈ gT := gT4 (i := 212) rfl rfl
theorem w_934 : Cond.fieldLink RX8 40 "BlownNextModel" "bestRhythm" "[J" ∈ gT := gT4 (i := 213) rfl rfl
theorem w_935 : Cond.fieldLink RX8 43 "BlownNextModel" "states" "[J" ∈ gT := gT4 (i := 214) rfl rfl
theorem w_936 : Cond.fieldLink RX8 46 "BlownNextModel" "table" "[I" ∈ gT := gT4 (i := 215) rfl rfl
theorem w_937 : Cond.fieldLink RX8 265 "BlownNextModel" "stateMany" "I" ∈ gT := gT4 (i := 216) rfl rfl
theorem w_938 : Cond.fieldLink RX8 282 "BlownNextModel" "always" "I" ∈ gT := gT4 (i := 217) rfl rfl
theorem w_939 : Cond.fieldLink RX8 285 "BlownNextModel" "never" "I" ∈ gT := gT4 (i := 218) rfl rfl
theorem w_940 : Cond.fieldLink RX8 49 "BlownNextModel" "to" "[I" ∈ gT := gT4 (i := 219) rfl rfl
theorem w_941 : Cond.fieldLink RX8 52 "BlownNextModel" "bestTo" "[I" ∈ gT := gT4 (i := 220) rfl rfl
theorem w_942 : Cond.fieldLink RX8 298 "BlownNextModel" "bestSum" "I" ∈ gT := gT4 (i := 221) rfl rfl
theorem w_943 : Cond.fieldLink RX8 55 "BlownNextModel" "rowSort" "[I" ∈ gT := gT4 (i := 222) rfl rfl
theorem w_944 : Cond.fieldLink RX8 58 "BlownNextModel" "rowMany" "[I" ∈ gT := gT4 (i := 223) rfl rfl
theorem w_945 : Cond.fieldLink RX8 61 "BlownNextModel" "numbers" "[J" ∈ gT := gT4 (i := 224) rfl rfl
theorem w_946 : Cond.lays RX8 "BlownNextModel" "thrown" "I" ∈ gT := gT4 (i := 225) rfl rfl
theorem w_948 : Cond.laysFinal RX8 "BlownNextModel" "all" "[I" ∈ gT := gT4 (i := 227) rfl rfl
theorem w_950 : Cond.laysFinal RX8 "BlownNextModel" "hasImage" "[Z" ∈ gT := gT4 (i := 229) rfl rfl
theorem w_952 : Cond.laysFinal RX8 "BlownNextModel" "tape" "[I" ∈ gT := gT4 (i := 231) rfl rfl
theorem w_954 : Cond.laysFinal RX8 "BlownNextModel" "fresh" "[I" ∈ gT := gT4 (i := 233) rfl rfl
theorem w_956 : Cond.lays RX8 "BlownNextModel" "taped" "I" ∈ gT := gT4 (i := 235) rfl rfl
theorem w_958 : Cond.lays RX8 "BlownNextModel" "at" "I" ∈ gT := gT4 (i := 237) rfl rfl
theorem w_960 : Cond.lays RX8 "BlownNextModel" "behind" "I" ∈ gT := gT4 (i := 239) rfl rfl
theorem w_962 : Cond.lays RX8 "BlownNextModel" "size" "I" ∈ gT := gT5 (i := 1) rfl rfl
theorem w_964 : Cond.lays RX8 "BlownNextModel" "kind" "I" ∈ gT := gT5 (i := 3) rfl rfl
theorem w_966 : Cond.lays RX8 "BlownNextModel" "number" "I" ∈ gT := gT5 (i := 5) rfl rfl
theorem w_968 : Cond.lays RX8 "BlownNextModel" "wrong" "I" ∈ gT := gT5 (i := 7) rfl rfl
theorem w_970 : Cond.lays RX8 "BlownNextModel" "wrongAt" "I" ∈ gT := gT5 (i := 9) rfl rfl
theorem w_972 : Cond.lays RX8 "BlownNextModel" "faultKind" "I" ∈ gT := gT5 (i := 11) rfl rfl
theorem w_974 : Cond.lays RX8 "BlownNextModel" "faultPlace" "I" ∈ gT := gT5 (i := 13) rfl rfl
theorem w_976 : Cond.laysFinal RX8 "BlownNextModel" "then" "[I" ∈ gT := gT5 (i := 15) rfl rfl
theorem w_978 : Cond.lays RX8 "BlownNextModel" "burntMany" "I" ∈ gT := gT5 (i := 17) rfl rfl
theorem w_980 : Cond.laysFinal RX8 "BlownNextModel" "kept" "[I" ∈ gT := gT5 (i := 19) rfl rfl
theorem w_982 : Cond.lays RX8 "BlownNextModel" "why" "I" ∈ gT := gT5 (i := 21) rfl rfl
theorem w_984 : Cond.lays RX8 "BlownNextModel" "counted" "I" ∈ gT := gT5 (i := 23) rfl rfl
theorem w_986 : Cond.laysFinal RX8 "BlownNextModel" "rhythm" "[J" ∈ gT := gT5 (i := 25) rfl rfl
theorem w_988 : Cond.lays RX8 "BlownNextModel" "whose" "I" ∈ gT := gT5 (i := 27) rfl rfl
theorem w_990 : Cond.laysFinal RX8 "BlownNextModel" "bestRhythm" "[J" ∈ gT := gT5 (i := 29) rfl rfl
theorem w_992 : Cond.laysFinal RX8 "BlownNextModel" "states" "[J" ∈ gT := gT5 (i := 31) rfl rfl
theorem w_994 : Cond.laysFinal RX8 "BlownNextModel" "table" "[I" ∈ gT := gT5 (i := 33) rfl rfl
theorem w_996 : Cond.lays RX8 "BlownNextModel" "stateMany" "I" ∈ gT := gT5 (i := 35) rfl rfl
theorem w_998 : Cond.lays RX8 "BlownNextModel" "always" "I" ∈ gT := gT5 (i := 37) rfl rfl
theorem w_1000 : Cond.lays RX8 "BlownNextModel" "never" "I" ∈ gT := gT5 (i := 39) rfl rfl
theorem w_1002 : Cond.laysFinal RX8 "BlownNextModel" "to" "[I" ∈ gT := gT5 (i := 41) rfl rfl
theorem w_1004 : Cond.laysFinal RX8 "BlownNextModel" "bestTo" "[I" ∈ gT := gT5 (i := 43) rfl rfl
theorem w_1006 : Cond.lays RX8 "BlownNextModel" "bestSum" "I" ∈ gT := gT5 (i := 45) rfl rfl
theorem w_1008 : Cond.laysFinal RX8 "BlownNextModel" "rowSort" "[I" ∈ gT := gT5 (i := 47) rfl rfl
theorem w_1010 : Cond.laysFinal RX8 "BlownNextModel" "rowMany" "[I" ∈ gT := gT5 (i := 49) rfl rfl
theorem w_1012 : Cond.laysFinal RX8 "BlownNextModel" "numbers" "[J" ∈ gT := gT5 (i := 51) rfl rfl
theorem w_1015 : Cond.methodLink RL 17 yX8_feed ∈ gT := gT5 (i := 54) rfl rfl
theorem w_1016 : Cond.instanceMethod yX8_feed ∈ gT := gT5 (i := 55) rfl rfl
theorem w_1017 : Cond.selects RX8 yX8_feed yX8_feed ∈ gT := gT5 (i := 56) rfl rfl
theorem w_1018 : Cond.code yX8_feed cX8_feed 8 (some .int) ∈ gT := gT5 (i := 57) rfl rfl
theorem w_1019 : Cond.methodLink RL 22 yX8_street ∈ gT := gT5 (i := 58) rfl rfl
theorem w_1020 : Cond.instanceMethod yX8_street ∈ gT := gT5 (i := 59) rfl rfl
theorem w_1021 : Cond.selects RX8 yX8_street yX8_street ∈ gT := gT5 (i := 60) rfl rfl
theorem w_1022 : Cond.code yX8_street cX8_street 3 (some .int) ∈ gT := gT5 (i := 61) rfl rfl
theorem w_1023 : Cond.methodLink RX8 124 yX8_within ∈ gT := gT5 (i := 62) rfl rfl
theorem w_1024 : Cond.static yX8_within ∈ gT := gT5 (i := 63) rfl rfl
theorem w_1025 : Cond.code yX8_within cX8_within 6 (some .boolean) ∈ gT := gT5 (i := 64) rfl rfl
theorem w_1026 : Cond.methodLink RX8 117 yX8_next ∈ gT := gT5 (i := 65) rfl rfl
theorem w_1028 : Cond.instanceMethod yX8_next ∈ gT := gT5 (i := 67) rfl rfl
theorem w_1029 : Cond.code yX8_next cX8_next 1 none ∈ gT := gT5 (i := 68) rfl rfl
theorem w_1030 : Cond.methodLink RX8 88 yX8_see ∈ gT := gT5 (i := 69) rfl rfl
theorem w_1032 : Cond.instanceMethod yX8_see ∈ gT := gT5 (i := 71) rfl rfl
theorem w_1033 : Cond.code yX8_see cX8_see 2 (some .int) ∈ gT := gT5 (i := 72) rfl rfl
theorem w_1034 : Cond.methodLink RX8 95 yX8_isSmall ∈ gT := gT5 (i := 73) rfl rfl
theorem w_1035 : Cond.static yX8_isSmall ∈ gT := gT5 (i := 74) rfl rfl
theorem w_1036 : Cond.code yX8_isSmall cX8_isSmall 1 (some .boolean) ∈ gT := gT5 (i := 75) rfl rfl
theorem w_1037 : Cond.methodLink RX8 99 yX8_keyAt ∈ gT := gT5 (i := 76) rfl rfl
theorem w_1039 : Cond.instanceMethod yX8_keyAt ∈ gT := gT5 (i := 78) rfl rfl
theorem w_1040 : Cond.code yX8_keyAt cX8_keyAt 4 (some .int) ∈ gT := gT5 (i := 79) rfl rfl
theorem t_1041 : Cond.stringRef RX8 70 " smith cool heat low high piece blows burnt " ∈ lw_tbl := tT5 (i := 80) rfl
theorem w_1042 : Cond.methodLink RX8 72 yJ0_length_8abf5 ∈ gT := gT5 (i := 81) rfl rfl
theorem w_1043 : Cond.methodLink RX8 78 yJ0_charAt_5068e ∈ gT := gT5 (i := 82) rfl rfl
theorem w_1044 : Cond.methodLink RX8 102 yX8_isDigit ∈ gT := gT5 (i := 83) rfl rfl
theorem w_1045 : Cond.static yX8_isDigit ∈ gT := gT5 (i := 84) rfl rfl
theorem w_1046 : Cond.code yX8_isDigit cX8_isDigit 1 (some .boolean) ∈ gT := gT5 (i := 85) rfl rfl
theorem w_1047 : Cond.methodLink RX8 114 yX8_is ∈ gT := gT5 (i := 86) rfl rfl
theorem w_1049 : Cond.instanceMethod yX8_is ∈ gT := gT5 (i := 88) rfl rfl
theorem w_1050 : Cond.code yX8_is cX8_is 2 (some .boolean) ∈ gT := gT5 (i := 89) rfl rfl
theorem w_1051 : Cond.methodLink RX8 139 yX8_readSmith ∈ gT := gT5 (i := 90) rfl rfl
theorem w_1053 : Cond.instanceMethod yX8_readSmith ∈ gT := gT5 (i := 92) rfl rfl
theorem w_1054 : Cond.code yX8_readSmith cX8_readSmith 8 none ∈ gT := gT5 (i := 93) rfl rfl
theorem w_1055 : Cond.methodLink RX8 120 yX8_fails ∈ gT := gT5 (i := 94) rfl rfl
theorem w_1057 : Cond.instanceMethod yX8_fails ∈ gT := gT5 (i := 96) rfl rfl
theorem w_1058 : Cond.code yX8_fails cX8_fails 2 none ∈ gT := gT5 (i := 97) rfl rfl
theorem w_1059 : Cond.methodLink RX8 131 yX8_takes ∈ gT := gT5 (i := 98) rfl rfl
theorem w_1061 : Cond.instanceMethod yX8_takes ∈ gT := gT5 (i := 100) rfl rfl
theorem w_1062 : Cond.code yX8_takes cX8_takes 4 (some .int) ∈ gT := gT5 (i := 101) rfl rfl
theorem w_1063 : Cond.methodLink RX8 135 yX8_takesIf ∈ gT := gT5 (i := 102) rfl rfl
theorem w_1065 : Cond.instanceMethod yX8_takesIf ∈ gT := gT5 (i := 104) rfl rfl
theorem w_1066 : Cond.code yX8_takesIf cX8_takesIf 5 (some .int) ∈ gT := gT5 (i := 105) rfl rfl
theorem w_1067 : Cond.methodLink RX8 128 yX8_eats ∈ gT := gT5 (i := 106) rfl rfl
theorem w_1069 : Cond.instanceMethod yX8_eats ∈ gT := gT5 (i := 108) rfl rfl
theorem w_1070 : Cond.code yX8_eats cX8_eats 2 (some .boolean) ∈ gT := gT5 (i := 109) rfl rfl
theorem w_1071 : Cond.methodLink RX8 142 yX8_readBlows ∈ gT := gT5 (i := 110) rfl rfl
theorem w_1073 : Cond.instanceMethod yX8_readBlows ∈ gT := gT5 (i := 112) rfl rfl
theorem w_1074 : Cond.code yX8_readBlows cX8_readBlows 3 none ∈ gT := gT5 (i := 113) rfl rfl
theorem w_1075 : Cond.methodLink RL 26 yX8_fault ∈ gT := gT5 (i := 114) rfl rfl
theorem w_1076 : Cond.instanceMethod yX8_fault ∈ gT := gT5 (i := 115) rfl rfl
theorem w_1077 : Cond.selects RX8 yX8_fault yX8_fault ∈ gT := gT5 (i := 116) rfl rfl
theorem w_1078 : Cond.code yX8_fault cX8_fault 2 (some .int) ∈ gT := gT5 (i := 117) rfl rfl
theorem w_1079 : Cond.methodLink RL 31 yX8_smith ∈ gT := gT5 (i := 118) rfl rfl
theorem w_1080 : Cond.instanceMethod yX8_smith ∈ gT := gT5 (i := 119) rfl rfl
theorem w_1081 : Cond.selects RX8 yX8_smith yX8_smith ∈ gT := gT5 (i := 120) rfl rfl
theorem w_1082 : Cond.code yX8_smith cX8_smith 3 (some .int) ∈ gT := gT5 (i := 121) rfl rfl
theorem w_1083 : Cond.methodLink RX8 148 yX8_isSmith ∈ gT := gT5 (i := 122) rfl rfl
theorem w_1085 : Cond.instanceMethod yX8_isSmith ∈ gT := gT5 (i := 124) rfl rfl
theorem w_1086 : Cond.code yX8_isSmith cX8_isSmith 2 (some .boolean) ∈ gT := gT5 (i := 125) rfl rfl
theorem w_1087 : Cond.constantLong RX8 151 (9) ∈ gT := gT5 (i := 126) rfl rfl
theorem w_1088 : Cond.methodLink RX8 153 yX8_isDone ∈ gT := gT5 (i := 127) rfl rfl
theorem w_1090 : Cond.instanceMethod yX8_isDone ∈ gT := gT5 (i := 129) rfl rfl
theorem w_1091 : Cond.code yX8_isDone cX8_isDone 2 (some .boolean) ∈ gT := gT5 (i := 130) rfl rfl
theorem w_1092 : Cond.methodLink RL 35 yX8_blowers ∈ gT := gT5 (i := 131) rfl rfl
theorem w_1093 : Cond.instanceMethod yX8_blowers ∈ gT := gT5 (i := 132) rfl rfl
theorem w_1094 : Cond.selects RX8 yX8_blowers yX8_blowers ∈ gT := gT5 (i := 133) rfl rfl
theorem w_1095 : Cond.code yX8_blowers cX8_blowers 2 (some .int) ∈ gT := gT5 (i := 134) rfl rfl
theorem w_1096 : Cond.methodLink RX8 156 yX8_blowersOf ∈ gT := gT5 (i := 135) rfl rfl
theorem w_1098 : Cond.instanceMethod yX8_blowersOf ∈ gT := gT5 (i := 137) rfl rfl
theorem w_1099 : Cond.code yX8_blowersOf cX8_blowersOf 4 (some .int) ∈ gT := gT5 (i := 138) rfl rfl
theorem w_1100 : Cond.methodLink RL 39 yX8_rope ∈ gT := gT5 (i := 139) rfl rfl
theorem w_1101 : Cond.instanceMethod yX8_rope ∈ gT := gT5 (i := 140) rfl rfl
theorem w_1102 : Cond.selects RX8 yX8_rope yX8_rope ∈ gT := gT5 (i := 141) rfl rfl
theorem w_1103 : Cond.code yX8_rope cX8_rope 4 (some .int) ∈ gT := gT5 (i := 142) rfl rfl
theorem w_1104 : Cond.methodLink RL 43 yX8_arm ∈ gT := gT5 (i := 143) rfl rfl
theorem w_1105 : Cond.instanceMethod yX8_arm ∈ gT := gT5 (i := 144) rfl rfl
theorem w_1106 : Cond.selects RX8 yX8_arm yX8_arm ∈ gT := gT5 (i := 145) rfl rfl
theorem w_1107 : Cond.code yX8_arm cX8_arm 4 (some .int) ∈ gT := gT5 (i := 146) rfl rfl
theorem w_1108 : Cond.constantLong RX8 159 (60) ∈ gT := gT5 (i := 147) rfl rfl
theorem w_1109 : Cond.methodLink RL 47 yX8_piece ∈ gT := gT5 (i := 148) rfl rfl
theorem w_1110 : Cond.instanceMethod yX8_piece ∈ gT := gT5 (i := 149) rfl rfl
theorem w_1111 : Cond.selects RX8 yX8_piece yX8_piece ∈ gT := gT5 (i := 150) rfl rfl
theorem w_1112 : Cond.code yX8_piece cX8_piece 4 (some .int) ∈ gT := gT5 (i := 151) rfl rfl
theorem w_1113 : Cond.constantLong RX8 161 (20) ∈ gT := gT5 (i := 152) rfl rfl
theorem w_1114 : Cond.methodLink RL 51 yX8_minute ∈ gT := gT5 (i := 153) rfl rfl
theorem w_1115 : Cond.instanceMethod yX8_minute ∈ gT := gT5 (i := 154) rfl rfl
theorem w_1116 : Cond.selects RX8 yX8_minute yX8_minute ∈ gT := gT5 (i := 155) rfl rfl
theorem w_1117 : Cond.code yX8_minute cX8_minute 3 (some .int) ∈ gT := gT5 (i := 156) rfl rfl
theorem w_1118 : Cond.methodLink RX8 180 yX8_isSet ∈ gT := gT5 (i := 157) rfl rfl
theorem w_1120 : Cond.instanceMethod yX8_isSet ∈ gT := gT5 (i := 159) rfl rfl
theorem w_1121 : Cond.code yX8_isSet cX8_isSet 3 (some .boolean) ∈ gT := gT5 (i := 160) rfl rfl
theorem w_1122 : Cond.methodLink RX8 184 yX8_goes ∈ gT := gT5 (i := 161) rfl rfl
theorem w_1124 : Cond.instanceMethod yX8_goes ∈ gT := gT5 (i := 163) rfl rfl
theorem w_1125 : Cond.code yX8_goes cX8_goes 7 (some .int) ∈ gT := gT5 (i := 164) rfl rfl
theorem w_1126 : Cond.methodLink RX8 170 yX8_heatThen ∈ gT := gT5 (i := 165) rfl rfl
theorem w_1128 : Cond.instanceMethod yX8_heatThen ∈ gT := gT5 (i := 167) rfl rfl
theorem w_1129 : Cond.code yX8_heatThen cX8_heatThen 6 (some .int) ∈ gT := gT5 (i := 168) rfl rfl
theorem w_1130 : Cond.methodLink RX8 163 yX8_isIn ∈ gT := gT5 (i := 169) rfl rfl
theorem w_1131 : Cond.static yX8_isIn ∈ gT := gT5 (i := 170) rfl rfl
theorem w_1132 : Cond.code yX8_isIn cX8_isIn 3 (some .boolean) ∈ gT := gT5 (i := 171) rfl rfl
theorem w_1133 : Cond.methodLink RX8 167 yX8_inBounds ∈ gT := gT5 (i := 172) rfl rfl
theorem w_1134 : Cond.static yX8_inBounds ∈ gT := gT5 (i := 173) rfl rfl
theorem w_1135 : Cond.code yX8_inBounds cX8_inBounds 1 (some .int) ∈ gT := gT5 (i := 174) rfl rfl
theorem w_1136 : Cond.methodLink RX8 174 yX8_isWarm ∈ gT := gT5 (i := 175) rfl rfl
theorem w_1138 : Cond.instanceMethod yX8_isWarm ∈ gT := gT5 (i := 177) rfl rfl
theorem w_1139 : Cond.code yX8_isWarm cX8_isWarm 2 (some .boolean) ∈ gT := gT5 (i := 178) rfl rfl
theorem w_1140 : Cond.methodLink RL 55 yX8_judge ∈ gT := gT5 (i := 179) rfl rfl
theorem w_1141 : Cond.instanceMethod yX8_judge ∈ gT := gT5 (i := 180) rfl rfl
theorem w_1142 : Cond.selects RX8 yX8_judge yX8_judge ∈ gT := gT5 (i := 181) rfl rfl
theorem w_1143 : Cond.code yX8_judge cX8_judge 5 (some .int) ∈ gT := gT5 (i := 182) rfl rfl
theorem w_1144 : Cond.constantLong RX8 196 (3) ∈ gT := gT5 (i := 183) rfl rfl
theorem w_1145 : Cond.constantLong RX8 198 (4) ∈ gT := gT5 (i := 184) rfl rfl
theorem w_1146 : Cond.methodLink RX8 200 yX8_keeps ∈ gT := gT5 (i := 185) rfl rfl
theorem w_1148 : Cond.instanceMethod yX8_keeps ∈ gT := gT5 (i := 187) rfl rfl
theorem w_1149 : Cond.code yX8_keeps cX8_keeps 2 none ∈ gT := gT5 (i := 188) rfl rfl
theorem w_1150 : Cond.methodLink RX8 203 yX8_minutesOf ∈ gT := gT5 (i := 189) rfl rfl
theorem w_1152 : Cond.instanceMethod yX8_minutesOf ∈ gT := gT5 (i := 191) rfl rfl
theorem w_1153 : Cond.code yX8_minutesOf cX8_minutesOf 4 (some .int) ∈ gT := gT5 (i := 192) rfl rfl
theorem w_1154 : Cond.methodLink RX8 193 yX8_whyNot ∈ gT := gT5 (i := 193) rfl rfl
theorem w_1156 : Cond.instanceMethod yX8_whyNot ∈ gT := gT5 (i := 195) rfl rfl
theorem w_1157 : Cond.code yX8_whyNot cX8_whyNot 7 (some .int) ∈ gT := gT5 (i := 196) rfl rfl
theorem w_1158 : Cond.methodLink RX8 206 yX8_doneMany ∈ gT := gT5 (i := 197) rfl rfl
theorem w_1160 : Cond.instanceMethod yX8_doneMany ∈ gT := gT5 (i := 199) rfl rfl
theorem w_1161 : Cond.code yX8_doneMany cX8_doneMany 3 (some .int) ∈ gT := gT5 (i := 200) rfl rfl
theorem w_1162 : Cond.methodLink RX8 209 yX8_isAgain ∈ gT := gT5 (i := 201) rfl rfl
theorem w_1164 : Cond.instanceMethod yX8_isAgain ∈ gT := gT5 (i := 203) rfl rfl
theorem w_1165 : Cond.code yX8_isAgain cX8_isAgain 2 none ∈ gT := gT5 (i := 204) rfl rfl
theorem w_1166 : Cond.methodLink RL 59 yX8_perform ∈ gT := gT5 (i := 205) rfl rfl
theorem w_1167 : Cond.instanceMethod yX8_perform ∈ gT := gT5 (i := 206) rfl rfl
theorem w_1168 : Cond.selects RX8 yX8_perform yX8_perform ∈ gT := gT5 (i := 207) rfl rfl
theorem w_1169 : Cond.code yX8_perform cX8_perform 2 (some .int) ∈ gT := gT5 (i := 208) rfl rfl
theorem w_1170 : Cond.methodLink RL 63 yX8_custom ∈ gT := gT5 (i := 209) rfl rfl
theorem w_1171 : Cond.instanceMethod yX8_custom ∈ gT := gT5 (i := 210) rfl rfl
theorem w_1172 : Cond.selects RX8 yX8_custom yX8_custom ∈ gT := gT5 (i := 211) rfl rfl
theorem w_1173 : Cond.code yX8_custom cX8_custom 3 (some .int) ∈ gT := gT5 (i := 212) rfl rfl
theorem w_1174 : Cond.methodLink RX8 217 yX8_refusesTime ∈ gT := gT5 (i := 213) rfl rfl
theorem w_1176 : Cond.instanceMethod yX8_refusesTime ∈ gT := gT5 (i := 215) rfl rfl
theorem w_1177 : Cond.code yX8_refusesTime cX8_refusesTime 2 (some .int) ∈ gT := gT5 (i := 216) rfl rfl
theorem w_1178 : Cond.constantLong RX8 215 (200) ∈ gT := gT5 (i := 217) rfl rfl
theorem w_1179 : Cond.methodLink RX8 220 yX8_doneBy ∈ gT := gT5 (i := 218) rfl rfl
theorem w_1181 : Cond.instanceMethod yX8_doneBy ∈ gT := gT5 (i := 220) rfl rfl
theorem w_1182 : Cond.code yX8_doneBy cX8_doneBy 6 (some .int) ∈ gT := gT5 (i := 221) rfl rfl
theorem w_1183 : Cond.methodLink RX8 212 yX8_lives ∈ gT := gT5 (i := 222) rfl rfl
theorem w_1185 : Cond.instanceMethod yX8_lives ∈ gT := gT5 (i := 224) rfl rfl
theorem w_1186 : Cond.code yX8_lives cX8_lives 11 (some .int) ∈ gT := gT5 (i := 225) rfl rfl
theorem w_1187 : Cond.methodLink RL 67 yX8_live ∈ gT := gT5 (i := 226) rfl rfl
theorem w_1188 : Cond.instanceMethod yX8_live ∈ gT := gT5 (i := 227) rfl rfl
theorem w_1189 : Cond.selects RX8 yX8_live yX8_live ∈ gT := gT5 (i := 228) rfl rfl
theorem w_1190 : Cond.code yX8_live cX8_live 3 (some .int) ∈ gT := gT5 (i := 229) rfl rfl
theorem w_1191 : Cond.methodLink RL 71 yX8_day ∈ gT := gT5 (i := 230) rfl rfl
theorem w_1192 : Cond.instanceMethod yX8_day ∈ gT := gT5 (i := 231) rfl rfl
theorem w_1193 : Cond.selects RX8 yX8_day yX8_day ∈ gT := gT5 (i := 232) rfl rfl
theorem w_1194 : Cond.code yX8_day cX8_day 10 (some .int) ∈ gT := gT5 (i := 233) rfl rfl
theorem w_1195 : Cond.constant RX8 223 (1103515245) ∈ gT := gT5 (i := 234) rfl rfl
theorem w_1196 : Cond.methodLink RL 75 yX8_ring ∈ gT := gT5 (i := 235) rfl rfl
theorem w_1197 : Cond.instanceMethod yX8_ring ∈ gT := gT5 (i := 236) rfl rfl
theorem w_1198 : Cond.selects RX8 yX8_ring yX8_ring ∈ gT := gT5 (i := 237) rfl rfl
theorem w_1199 : Cond.code yX8_ring cX8_ring 2 (some .int) ∈ gT := gT5 (i := 238) rfl rfl
theorem w_1200 : Cond.methodLink RX8 227 yX8_ringOf ∈ gT := gT5 (i := 239) rfl rfl
theorem w_1202 : Cond.instanceMethod yX8_ringOf ∈ gT := gT6 (i := 1) rfl rfl
theorem w_1203 : Cond.code yX8_ringOf cX8_ringOf 4 (some .int) ∈ gT := gT6 (i := 2) rfl rfl
theorem w_1204 : Cond.methodLink RX8 224 yX8_led ∈ gT := gT6 (i := 3) rfl rfl
theorem w_1206 : Cond.instanceMethod yX8_led ∈ gT := gT6 (i := 5) rfl rfl
theorem w_1207 : Cond.code yX8_led cX8_led 5 (some .int) ∈ gT := gT6 (i := 6) rfl rfl
theorem w_1208 : Cond.methodLink RL 80 yX8_rings ∈ gT := gT6 (i := 7) rfl rfl
theorem w_1209 : Cond.instanceMethod yX8_rings ∈ gT := gT6 (i := 8) rfl rfl
theorem w_1210 : Cond.selects RX8 yX8_rings yX8_rings ∈ gT := gT6 (i := 9) rfl rfl
theorem w_1211 : Cond.code yX8_rings cX8_rings 5 (some .int) ∈ gT := gT6 (i := 10) rfl rfl
theorem w_1212 : Cond.methodLink RL 84 yX8_steps ∈ gT := gT6 (i := 11) rfl rfl
theorem w_1213 : Cond.instanceMethod yX8_steps ∈ gT := gT6 (i := 12) rfl rfl
theorem w_1214 : Cond.selects RX8 yX8_steps yX8_steps ∈ gT := gT6 (i := 13) rfl rfl
theorem w_1215 : Cond.code yX8_steps cX8_steps 4 (some .int) ∈ gT := gT6 (i := 14) rfl rfl
theorem w_1216 : Cond.methodLink RL 88 yX8_unblown ∈ gT := gT6 (i := 15) rfl rfl
theorem w_1217 : Cond.instanceMethod yX8_unblown ∈ gT := gT6 (i := 16) rfl rfl
theorem w_1218 : Cond.selects RX8 yX8_unblown yX8_unblown ∈ gT := gT6 (i := 17) rfl rfl
theorem w_1219 : Cond.code yX8_unblown cX8_unblown 3 (some .int) ∈ gT := gT6 (i := 18) rfl rfl
theorem w_1220 : Cond.methodLink RL 93 yX8_holds ∈ gT := gT6 (i := 19) rfl rfl
theorem w_1221 : Cond.instanceMethod yX8_holds ∈ gT := gT6 (i := 20) rfl rfl
theorem w_1222 : Cond.selects RX8 yX8_holds yX8_holds ∈ gT := gT6 (i := 21) rfl rfl
theorem w_1223 : Cond.code yX8_holds cX8_holds 6 (some .int) ∈ gT := gT6 (i := 22) rfl rfl
theorem w_1224 : Cond.methodLink RX8 238 yX8_takesRhythm ∈ gT := gT6 (i := 23) rfl rfl
theorem w_1226 : Cond.instanceMethod yX8_takesRhythm ∈ gT := gT6 (i := 25) rfl rfl
theorem w_1227 : Cond.code yX8_takesRhythm cX8_takesRhythm 4 (some .int) ∈ gT := gT6 (i := 26) rfl rfl
theorem w_1228 : Cond.constantLong RX8 236 (12) ∈ gT := gT6 (i := 27) rfl rfl
theorem w_1229 : Cond.methodLink RX8 241 yX8_holdsBy ∈ gT := gT6 (i := 28) rfl rfl
theorem w_1231 : Cond.instanceMethod yX8_holdsBy ∈ gT := gT6 (i := 30) rfl rfl
theorem w_1232 : Cond.code yX8_holdsBy cX8_holdsBy 6 (some .int) ∈ gT := gT6 (i := 31) rfl rfl
theorem w_1233 : Cond.methodLink RX8 233 yX8_pulling ∈ gT := gT6 (i := 32) rfl rfl
theorem w_1235 : Cond.instanceMethod yX8_pulling ∈ gT := gT6 (i := 34) rfl rfl
theorem w_1236 : Cond.code yX8_pulling cX8_pulling 4 (some .int) ∈ gT := gT6 (i := 35) rfl rfl
theorem w_1237 : Cond.methodLink RL 97 yX8_even ∈ gT := gT6 (i := 36) rfl rfl
theorem w_1238 : Cond.instanceMethod yX8_even ∈ gT := gT6 (i := 37) rfl rfl
theorem w_1239 : Cond.selects RX8 yX8_even yX8_even ∈ gT := gT6 (i := 38) rfl rfl
theorem w_1240 : Cond.code yX8_even cX8_even 9 (some .int) ∈ gT := gT6 (i := 39) rfl rfl
theorem w_1241 : Cond.methodLink RL 101 yX8_wave ∈ gT := gT6 (i := 40) rfl rfl
theorem w_1242 : Cond.instanceMethod yX8_wave ∈ gT := gT6 (i := 41) rfl rfl
theorem w_1243 : Cond.selects RX8 yX8_wave yX8_wave ∈ gT := gT6 (i := 42) rfl rfl
theorem w_1244 : Cond.code yX8_wave cX8_wave 3 (some .int) ∈ gT := gT6 (i := 43) rfl rfl
theorem w_1245 : Cond.methodLink RX8 244 yX8_waves ∈ gT := gT6 (i := 44) rfl rfl
theorem w_1247 : Cond.instanceMethod yX8_waves ∈ gT := gT6 (i := 46) rfl rfl
theorem w_1248 : Cond.code yX8_waves cX8_waves 4 (some .int) ∈ gT := gT6 (i := 47) rfl rfl
theorem w_1249 : Cond.methodLink RL 105 yX8_bestWave ∈ gT := gT6 (i := 48) rfl rfl
theorem w_1250 : Cond.instanceMethod yX8_bestWave ∈ gT := gT6 (i := 49) rfl rfl
theorem w_1251 : Cond.selects RX8 yX8_bestWave yX8_bestWave ∈ gT := gT6 (i := 50) rfl rfl
theorem w_1252 : Cond.code yX8_bestWave cX8_bestWave 6 (some .int) ∈ gT := gT6 (i := 51) rfl rfl
theorem w_1253 : Cond.methodLink RL 109 yX8_bestRound ∈ gT := gT6 (i := 52) rfl rfl
theorem w_1254 : Cond.instanceMethod yX8_bestRound ∈ gT := gT6 (i := 53) rfl rfl
theorem w_1255 : Cond.selects RX8 yX8_bestRound yX8_bestRound ∈ gT := gT6 (i := 54) rfl rfl
theorem w_1256 : Cond.code yX8_bestRound cX8_bestRound 7 (some .int) ∈ gT := gT6 (i := 55) rfl rfl
theorem w_1257 : Cond.constantLong RX8 247 (10) ∈ gT := gT6 (i := 56) rfl rfl
theorem w_1258 : Cond.methodLink RX8 249 yX8_bitsOf ∈ gT := gT6 (i := 57) rfl rfl
theorem w_1259 : Cond.static yX8_bitsOf ∈ gT := gT6 (i := 58) rfl rfl
theorem w_1260 : Cond.code yX8_bitsOf cX8_bitsOf 4 (some .int) ∈ gT := gT6 (i := 59) rfl rfl
theorem w_1261 : Cond.methodLink RL 113 yX8_peace ∈ gT := gT6 (i := 60) rfl rfl
theorem w_1262 : Cond.instanceMethod yX8_peace ∈ gT := gT6 (i := 61) rfl rfl
theorem w_1263 : Cond.selects RX8 yX8_peace yX8_peace ∈ gT := gT6 (i := 62) rfl rfl
theorem w_1264 : Cond.code yX8_peace cX8_peace 4 (some .int) ∈ gT := gT6 (i := 63) rfl rfl
theorem w_1265 : Cond.methodLink RX8 256 yX8_payOfAll ∈ gT := gT6 (i := 64) rfl rfl
theorem w_1267 : Cond.instanceMethod yX8_payOfAll ∈ gT := gT6 (i := 66) rfl rfl
theorem w_1268 : Cond.code yX8_payOfAll cX8_payOfAll 4 (some .int) ∈ gT := gT6 (i := 67) rfl rfl
theorem w_1269 : Cond.methodLink RX8 253 yX8_payOf ∈ gT := gT6 (i := 68) rfl rfl
theorem w_1271 : Cond.instanceMethod yX8_payOf ∈ gT := gT6 (i := 70) rfl rfl
theorem w_1272 : Cond.code yX8_payOf cX8_payOf 4 (some .int) ∈ gT := gT6 (i := 71) rfl rfl
theorem w_1273 : Cond.methodLink RL 117 yX8_selfish ∈ gT := gT6 (i := 72) rfl rfl
theorem w_1274 : Cond.instanceMethod yX8_selfish ∈ gT := gT6 (i := 73) rfl rfl
theorem w_1275 : Cond.selects RX8 yX8_selfish yX8_selfish ∈ gT := gT6 (i := 74) rfl rfl
theorem w_1276 : Cond.code yX8_selfish cX8_selfish 6 (some .int) ∈ gT := gT6 (i := 75) rfl rfl
theorem w_1277 : Cond.methodLink RL 121 yX8_soonest ∈ gT := gT6 (i := 76) rfl rfl
theorem w_1278 : Cond.instanceMethod yX8_soonest ∈ gT := gT6 (i := 77) rfl rfl
theorem w_1279 : Cond.selects RX8 yX8_soonest yX8_soonest ∈ gT := gT6 (i := 78) rfl rfl
theorem w_1280 : Cond.code yX8_soonest cX8_soonest 6 (some .int) ∈ gT := gT6 (i := 79) rfl rfl
theorem w_1281 : Cond.methodLink RX8 272 yX8_state ∈ gT := gT6 (i := 80) rfl rfl
theorem w_1283 : Cond.instanceMethod yX8_state ∈ gT := gT6 (i := 82) rfl rfl
theorem w_1284 : Cond.code yX8_state cX8_state 4 (some .long) ∈ gT := gT6 (i := 83) rfl rfl
theorem w_1285 : Cond.constantLong RX8 259 (8192) ∈ gT := gT6 (i := 84) rfl rfl
theorem w_1286 : Cond.methodLink RX8 276 yX8_meets ∈ gT := gT6 (i := 85) rfl rfl
theorem w_1288 : Cond.instanceMethod yX8_meets ∈ gT := gT6 (i := 87) rfl rfl
theorem w_1289 : Cond.code yX8_meets cX8_meets 4 none ∈ gT := gT6 (i := 88) rfl rfl
theorem w_1290 : Cond.constantLong RX8 263 (8191) ∈ gT := gT6 (i := 89) rfl rfl
theorem w_1291 : Cond.methodLink RX8 279 yX8_doesAll ∈ gT := gT6 (i := 90) rfl rfl
theorem w_1293 : Cond.instanceMethod yX8_doesAll ∈ gT := gT6 (i := 92) rfl rfl
theorem w_1294 : Cond.code yX8_doesAll cX8_doesAll 9 (some .boolean) ∈ gT := gT6 (i := 93) rfl rfl
theorem w_1295 : Cond.methodLink RX8 268 yX8_becomes ∈ gT := gT6 (i := 94) rfl rfl
theorem w_1297 : Cond.instanceMethod yX8_becomes ∈ gT := gT6 (i := 96) rfl rfl
theorem w_1298 : Cond.code yX8_becomes cX8_becomes 6 none ∈ gT := gT6 (i := 97) rfl rfl
theorem w_1299 : Cond.constantLong RX8 261 (32) ∈ gT := gT6 (i := 98) rfl rfl
theorem w_1300 : Cond.methodLink RL 125 yX8_seen ∈ gT := gT6 (i := 99) rfl rfl
theorem w_1301 : Cond.instanceMethod yX8_seen ∈ gT := gT6 (i := 100) rfl rfl
theorem w_1302 : Cond.selects RX8 yX8_seen yX8_seen ∈ gT := gT6 (i := 101) rfl rfl
theorem w_1303 : Cond.code yX8_seen cX8_seen 3 (some .int) ∈ gT := gT6 (i := 102) rfl rfl
theorem w_1304 : Cond.methodLink RX8 288 yX8_refusesSeen ∈ gT := gT6 (i := 103) rfl rfl
theorem w_1306 : Cond.instanceMethod yX8_refusesSeen ∈ gT := gT6 (i := 105) rfl rfl
theorem w_1307 : Cond.code yX8_refusesSeen cX8_refusesSeen 2 (some .int) ∈ gT := gT6 (i := 106) rfl rfl
theorem w_1308 : Cond.methodLink RX8 291 yX8_waysSeen ∈ gT := gT6 (i := 107) rfl rfl
theorem w_1310 : Cond.instanceMethod yX8_waysSeen ∈ gT := gT6 (i := 109) rfl rfl
theorem w_1311 : Cond.code yX8_waysSeen cX8_waysSeen 6 (some .int) ∈ gT := gT6 (i := 110) rfl rfl
theorem w_1312 : Cond.methodLink RL 130 yX8_sure ∈ gT := gT6 (i := 111) rfl rfl
theorem w_1313 : Cond.instanceMethod yX8_sure ∈ gT := gT6 (i := 112) rfl rfl
theorem w_1314 : Cond.selects RX8 yX8_sure yX8_sure ∈ gT := gT6 (i := 113) rfl rfl
theorem w_1315 : Cond.code yX8_sure cX8_sure 4 (some .int) ∈ gT := gT6 (i := 114) rfl rfl
theorem w_1316 : Cond.methodLink RL 134 yX8_ropes ∈ gT := gT6 (i := 115) rfl rfl
theorem w_1317 : Cond.instanceMethod yX8_ropes ∈ gT := gT6 (i := 116) rfl rfl
theorem w_1318 : Cond.selects RX8 yX8_ropes yX8_ropes ∈ gT := gT6 (i := 117) rfl rfl
theorem w_1319 : Cond.code yX8_ropes cX8_ropes 2 (some .int) ∈ gT := gT6 (i := 118) rfl rfl
theorem w_1320 : Cond.methodLink RX8 304 yX8_lays ∈ gT := gT6 (i := 119) rfl rfl
theorem w_1322 : Cond.instanceMethod yX8_lays ∈ gT := gT6 (i := 121) rfl rfl
theorem w_1323 : Cond.code yX8_lays cX8_lays 5 none ∈ gT := gT6 (i := 122) rfl rfl
theorem w_1324 : Cond.methodLink RX8 294 yX8_isOneRing ∈ gT := gT6 (i := 123) rfl rfl
theorem w_1326 : Cond.instanceMethod yX8_isOneRing ∈ gT := gT6 (i := 125) rfl rfl
theorem w_1327 : Cond.code yX8_isOneRing cX8_isOneRing 3 (some .boolean) ∈ gT := gT6 (i := 126) rfl rfl
theorem w_1328 : Cond.methodLink RX8 301 yX8_offBy ∈ gT := gT6 (i := 127) rfl rfl
theorem w_1330 : Cond.instanceMethod yX8_offBy ∈ gT := gT6 (i := 129) rfl rfl
theorem w_1331 : Cond.code yX8_offBy cX8_offBy 4 (some .int) ∈ gT := gT6 (i := 130) rfl rfl
theorem w_1332 : Cond.methodLink RL 138 yX8_lazy ∈ gT := gT6 (i := 131) rfl rfl
theorem w_1333 : Cond.instanceMethod yX8_lazy ∈ gT := gT6 (i := 132) rfl rfl
theorem w_1334 : Cond.selects RX8 yX8_lazy yX8_lazy ∈ gT := gT6 (i := 133) rfl rfl
theorem w_1335 : Cond.code yX8_lazy cX8_lazy 4 (some .int) ∈ gT := gT6 (i := 134) rfl rfl
theorem w_1336 : Cond.methodLink RL 142 yX8_stranger ∈ gT := gT6 (i := 135) rfl rfl
theorem w_1337 : Cond.instanceMethod yX8_stranger ∈ gT := gT6 (i := 136) rfl rfl
theorem w_1338 : Cond.selects RX8 yX8_stranger yX8_stranger ∈ gT := gT6 (i := 137) rfl rfl
theorem w_1339 : Cond.code yX8_stranger cX8_stranger 5 (some .int) ∈ gT := gT6 (i := 138) rfl rfl
theorem w_1340 : Cond.methodLink RX8 308 yX8_refusesStranger ∈ gT := gT6 (i := 139) rfl rfl
theorem w_1342 : Cond.instanceMethod yX8_refusesStranger ∈ gT := gT6 (i := 141) rfl rfl
theorem w_1343 : Cond.code yX8_refusesStranger cX8_refusesStranger 3 (some .int) ∈ gT := gT6 (i := 142) rfl rfl
theorem w_1344 : Cond.methodLink RX8 311 yX8_brings ∈ gT := gT6 (i := 143) rfl rfl
theorem w_1346 : Cond.instanceMethod yX8_brings ∈ gT := gT6 (i := 145) rfl rfl
theorem w_1347 : Cond.code yX8_brings cX8_brings 4 (some .int) ∈ gT := gT6 (i := 146) rfl rfl
theorem w_1348 : Cond.methodLink RL 146 yX8_bestPlace ∈ gT := gT6 (i := 147) rfl rfl
theorem w_1349 : Cond.instanceMethod yX8_bestPlace ∈ gT := gT6 (i := 148) rfl rfl
theorem w_1350 : Cond.selects RX8 yX8_bestPlace yX8_bestPlace ∈ gT := gT6 (i := 149) rfl rfl
theorem w_1351 : Cond.code yX8_bestPlace cX8_bestPlace 6 (some .int) ∈ gT := gT6 (i := 150) rfl rfl
theorem w_1352 : Cond.methodLink RL 150 yX8_swapped ∈ gT := gT6 (i := 151) rfl rfl
theorem w_1353 : Cond.instanceMethod yX8_swapped ∈ gT := gT6 (i := 152) rfl rfl
theorem w_1354 : Cond.selects RX8 yX8_swapped yX8_swapped ∈ gT := gT6 (i := 153) rfl rfl
theorem w_1355 : Cond.code yX8_swapped cX8_swapped 10 (some .int) ∈ gT := gT6 (i := 154) rfl rfl
theorem w_1356 : Cond.methodLink RX8 314 yX8_swaps ∈ gT := gT6 (i := 155) rfl rfl
theorem w_1358 : Cond.instanceMethod yX8_swaps ∈ gT := gT6 (i := 157) rfl rfl
theorem w_1359 : Cond.code yX8_swaps cX8_swaps 4 none ∈ gT := gT6 (i := 158) rfl rfl
theorem w_1360 : Cond.methodLink RL 154 yX8_when ∈ gT := gT6 (i := 159) rfl rfl
theorem w_1361 : Cond.instanceMethod yX8_when ∈ gT := gT6 (i := 160) rfl rfl
theorem w_1362 : Cond.selects RX8 yX8_when yX8_when ∈ gT := gT6 (i := 161) rfl rfl
theorem w_1363 : Cond.code yX8_when cX8_when 3 (some .int) ∈ gT := gT6 (i := 162) rfl rfl
theorem w_1364 : Cond.methodLink RL 158 yX8_warm ∈ gT := gT6 (i := 163) rfl rfl
theorem w_1365 : Cond.instanceMethod yX8_warm ∈ gT := gT6 (i := 164) rfl rfl
theorem w_1366 : Cond.selects RX8 yX8_warm yX8_warm ∈ gT := gT6 (i := 165) rfl rfl
theorem w_1367 : Cond.code yX8_warm cX8_warm 6 (some .int) ∈ gT := gT6 (i := 166) rfl rfl
theorem w_1368 : Cond.methodLink RL 162 yX8_cold ∈ gT := gT6 (i := 167) rfl rfl
theorem w_1369 : Cond.instanceMethod yX8_cold ∈ gT := gT6 (i := 168) rfl rfl
theorem w_1370 : Cond.selects RX8 yX8_cold yX8_cold ∈ gT := gT6 (i := 169) rfl rfl
theorem w_1371 : Cond.code yX8_cold cX8_cold 4 (some .int) ∈ gT := gT6 (i := 170) rfl rfl
theorem w_1372 : Cond.methodLink RL 166 yX8_numbers ∈ gT := gT6 (i := 171) rfl rfl
theorem w_1373 : Cond.instanceMethod yX8_numbers ∈ gT := gT6 (i := 172) rfl rfl
theorem w_1374 : Cond.selects RX8 yX8_numbers yX8_numbers ∈ gT := gT6 (i := 173) rfl rfl
theorem w_1375 : Cond.code yX8_numbers cX8_numbers 5 (some .int) ∈ gT := gT6 (i := 174) rfl rfl
theorem w_1376 : Cond.constantLong RX8 318 (40) ∈ gT := gT6 (i := 175) rfl rfl
theorem w_1377 : Cond.methodLink RL 173 yX8_write ∈ gT := gT6 (i := 176) rfl rfl
theorem w_1378 : Cond.instanceMethod yX8_write ∈ gT := gT6 (i := 177) rfl rfl
theorem w_1379 : Cond.selects RX8 yX8_write yX8_write ∈ gT := gT6 (i := 178) rfl rfl
theorem w_1380 : Cond.code yX8_write cX8_write 5 (some .long) ∈ gT := gT6 (i := 179) rfl rfl
theorem w_1381 : Cond.constantLong RX8 320 (-2) ∈ gT := gT6 (i := 180) rfl rfl
theorem w_1382 : Cond.constantLong RX8 322 (-6) ∈ gT := gT6 (i := 181) rfl rfl
theorem w_1383 : Cond.constantLong RX8 324 (-7) ∈ gT := gT6 (i := 182) rfl rfl
theorem w_1384 : Cond.methodLink RX8 326 yX8_cut ∈ gT := gT6 (i := 183) rfl rfl
theorem w_1385 : Cond.static yX8_cut ∈ gT := gT6 (i := 184) rfl rfl
theorem w_1386 : Cond.code yX8_cut cX8_cut 3 (some .long) ∈ gT := gT6 (i := 185) rfl rfl
theorem w_1387 : Cond.methodLink RL 177 yX8_copy ∈ gT := gT6 (i := 186) rfl rfl
theorem w_1388 : Cond.instanceMethod yX8_copy ∈ gT := gT6 (i := 187) rfl rfl
theorem w_1389 : Cond.selects RX8 yX8_copy yX8_copy ∈ gT := gT6 (i := 188) rfl rfl
theorem w_1390 : Cond.code yX8_copy cX8_copy 3 (some .int) ∈ gT := gT6 (i := 189) rfl rfl
theorem w_1391 : Cond.methodLink RL 181 yX8_image ∈ gT := gT6 (i := 190) rfl rfl
theorem w_1392 : Cond.instanceMethod yX8_image ∈ gT := gT6 (i := 191) rfl rfl
theorem w_1393 : Cond.selects RX8 yX8_image yX8_image ∈ gT := gT6 (i := 192) rfl rfl
theorem w_1394 : Cond.code yX8_image cX8_image 3 (some .int) ∈ gT := gT6 (i := 193) rfl rfl
theorem w_1395 : Cond.methodLink RL 185 yX8_restore ∈ gT := gT6 (i := 194) rfl rfl
theorem w_1396 : Cond.instanceMethod yX8_restore ∈ gT := gT6 (i := 195) rfl rfl
theorem w_1397 : Cond.selects RX8 yX8_restore yX8_restore ∈ gT := gT6 (i := 196) rfl rfl
theorem w_1398 : Cond.code yX8_restore cX8_restore 3 (some .int) ∈ gT := gT6 (i := 197) rfl rfl
theorem w_1399 : Cond.methodLink RL 189 yX8_count ∈ gT := gT6 (i := 198) rfl rfl
theorem w_1400 : Cond.instanceMethod yX8_count ∈ gT := gT6 (i := 199) rfl rfl
theorem w_1401 : Cond.selects RX8 yX8_count yX8_count ∈ gT := gT6 (i := 200) rfl rfl
theorem w_1402 : Cond.code yX8_count cX8_count 2 (some .int) ∈ gT := gT6 (i := 201) rfl rfl
theorem w_1403 : Cond.methodLink RX8 330 yX8_sumOf ∈ gT := gT6 (i := 202) rfl rfl
theorem w_1405 : Cond.instanceMethod yX8_sumOf ∈ gT := gT6 (i := 204) rfl rfl
theorem w_1406 : Cond.code yX8_sumOf cX8_sumOf 4 (some .int) ∈ gT := gT6 (i := 205) rfl rfl
theorem w_1407 : Cond.methodLink RX8 333 yX8_warmOnes ∈ gT := gT6 (i := 206) rfl rfl
theorem w_1409 : Cond.instanceMethod yX8_warmOnes ∈ gT := gT6 (i := 208) rfl rfl
theorem w_1410 : Cond.code yX8_warmOnes cX8_warmOnes 3 (some .int) ∈ gT := gT6 (i := 209) rfl rfl
theorem w_1411 : Cond.constantLong RL 167 (4294967295) ∈ gT := gT6 (i := 210) rfl rfl
theorem w_1412 : Cond.fieldLink RJ0 9 "java/lang/String" "value" "[B" ∈ gT := gT6 (i := 211) rfl rfl
theorem w_1413 : Cond.fieldLink RJ0 15 "java/lang/String" "coder" "B" ∈ gT := gT6 (i := 212) rfl rfl
theorem w_s0 : Cond.selects RX2 yX2_nextToken yX2_nextToken ∈ gT := gT0 (i := 0) rfl rfl
theorem w_s1 : Cond.selects RX2 yX2_kindAt yX2_kindAt ∈ gT := gT0 (i := 1) rfl rfl
theorem w_s2 : Cond.selects RX2 yX2_fail yX2_fail ∈ gT := gT0 (i := 2) rfl rfl
theorem w_s3 : Cond.selects RX2 yX2_isWord yX2_isWord ∈ gT := gT0 (i := 3) rfl rfl
theorem w_s4 : Cond.selects RX2 yX2_readSmith yX2_readSmith ∈ gT := gT0 (i := 4) rfl rfl
theorem w_s5 : Cond.selects RX2 yX2_takeNumber yX2_takeNumber ∈ gT := gT0 (i := 5) rfl rfl
theorem w_s6 : Cond.selects RX2 yX2_takeOption yX2_takeOption ∈ gT := gT0 (i := 6) rfl rfl
theorem w_s7 : Cond.selects RX2 yX2_readBlows yX2_readBlows ∈ gT := gT0 (i := 7) rfl rfl
theorem w_s8 : Cond.selects RX2 yX2_endLine yX2_endLine ∈ gT := gT0 (i := 8) rfl rfl
theorem w_s9 : Cond.selects RX5 yX5_weighChanges yX5_weighChanges ∈ gT := gT0 (i := 9) rfl rfl
theorem w_s10 : Cond.selects RX5 yX5_burn yX5_burn ∈ gT := gT0 (i := 10) rfl rfl
theorem w_s11 : Cond.selects RX7 yX7_refusedRow yX7_refusedRow ∈ gT := gT0 (i := 11) rfl rfl
theorem w_s12 : Cond.selects RX7 yX7_refusedMinutes yX7_refusedMinutes ∈ gT := gT0 (i := 12) rfl rfl
theorem w_s13 : Cond.selects RX7 yX7_doneByCustom yX7_doneByCustom ∈ gT := gT0 (i := 13) rfl rfl
theorem w_s14 : Cond.selects RX5 yX5_bears yX5_bears ∈ gT := gT0 (i := 14) rfl rfl
theorem w_s15 : Cond.selects RX7 yX7_refusedRhythms yX7_refusedRhythms ∈ gT := gT0 (i := 15) rfl rfl
theorem w_s16 : Cond.selects RX7 yX7_refusedSeen yX7_refusedSeen ∈ gT := gT0 (i := 16) rfl rfl
theorem w_s17 : Cond.selects RX3 yX3_everyTime yX3_everyTime ∈ gT := gT0 (i := 17) rfl rfl
theorem w_s18 : Cond.selects RX3 yX3_breaksBehind yX3_breaksBehind ∈ gT := gT0 (i := 18) rfl rfl
theorem w_s19 : Cond.selects RX3 yX3_weighChanges yX3_weighChanges ∈ gT := gT0 (i := 19) rfl rfl
theorem w_s20 : Cond.selects RX7 yX7_waveBreaksBehind yX7_waveBreaksBehind ∈ gT := gT0 (i := 20) rfl rfl
theorem w_s21 : Cond.selects RX3 yX3_holdAll yX3_holdAll ∈ gT := gT0 (i := 21) rfl rfl
theorem w_s22 : Cond.selects RX5 yX5_payOf yX5_payOf ∈ gT := gT0 (i := 22) rfl rfl
theorem w_s23 : Cond.selects RX4 yX4_weighChanges yX4_weighChanges ∈ gT := gT0 (i := 23) rfl rfl
theorem w_s24 : Cond.selects RX4 yX4_meetPresent yX4_meetPresent ∈ gT := gT0 (i := 24) rfl rfl
theorem w_s25 : Cond.selects RX4 yX4_meet yX4_meet ∈ gT := gT0 (i := 25) rfl rfl
theorem w_s26 : Cond.selects RX4 yX4_endsNext yX4_endsNext ∈ gT := gT0 (i := 26) rfl rfl
theorem w_s27 : Cond.selects RX4 yX4_unpack yX4_unpack ∈ gT := gT0 (i := 27) rfl rfl
theorem w_s28 : Cond.selects RX4 yX4_canStrike yX4_canStrike ∈ gT := gT0 (i := 28) rfl rfl
theorem w_s29 : Cond.selects RX4 yX4_goOnFrom yX4_goOnFrom ∈ gT := gT0 (i := 29) rfl rfl
theorem w_s30 : Cond.selects RX4 yX4_behindStrokes yX4_behindStrokes ∈ gT := gT0 (i := 30) rfl rfl
theorem w_s31 : Cond.selects RX0 yX0_layFrom yX0_layFrom ∈ gT := gT0 (i := 31) rfl rfl
theorem w_s32 : Cond.selects RX0 yX0_closesTooSoon yX0_closesTooSoon ∈ gT := gT0 (i := 32) rfl rfl
theorem w_s33 : Cond.selects RX7 yX7_refusedStranger yX7_refusedStranger ∈ gT := gT0 (i := 33) rfl rfl
theorem w_s34 : Cond.selects RX7 yX7_doneBySwapped yX7_doneBySwapped ∈ gT := gT0 (i := 34) rfl rfl
theorem w_s35 : Cond.selects RX1 yX1_cut yX1_cut ∈ gT := gT0 (i := 35) rfl rfl
theorem w_s36 : Cond.selects RX8 yX8_next yX8_next ∈ gT := gT0 (i := 36) rfl rfl
theorem w_s37 : Cond.selects RX8 yX8_see yX8_see ∈ gT := gT0 (i := 37) rfl rfl
theorem w_s38 : Cond.selects RX8 yX8_keyAt yX8_keyAt ∈ gT := gT0 (i := 38) rfl rfl
theorem w_s39 : Cond.selects RX8 yX8_is yX8_is ∈ gT := gT0 (i := 39) rfl rfl
theorem w_s40 : Cond.selects RX8 yX8_readSmith yX8_readSmith ∈ gT := gT0 (i := 40) rfl rfl
theorem w_s41 : Cond.selects RX8 yX8_fails yX8_fails ∈ gT := gT0 (i := 41) rfl rfl
theorem w_s42 : Cond.selects RX8 yX8_takes yX8_takes ∈ gT := gT0 (i := 42) rfl rfl
theorem w_s43 : Cond.selects RX8 yX8_takesIf yX8_takesIf ∈ gT := gT0 (i := 43) rfl rfl
theorem w_s44 : Cond.selects RX8 yX8_eats yX8_eats ∈ gT := gT0 (i := 44) rfl rfl
theorem w_s45 : Cond.selects RX8 yX8_readBlows yX8_readBlows ∈ gT := gT0 (i := 45) rfl rfl
theorem w_s46 : Cond.selects RX8 yX8_isSmith yX8_isSmith ∈ gT := gT0 (i := 46) rfl rfl
theorem w_s47 : Cond.selects RX8 yX8_isDone yX8_isDone ∈ gT := gT0 (i := 47) rfl rfl
theorem w_s48 : Cond.selects RX8 yX8_blowersOf yX8_blowersOf ∈ gT := gT0 (i := 48) rfl rfl
theorem w_s49 : Cond.selects RX8 yX8_isSet yX8_isSet ∈ gT := gT0 (i := 49) rfl rfl
theorem w_s50 : Cond.selects RX8 yX8_goes yX8_goes ∈ gT := gT0 (i := 50) rfl rfl
theorem w_s51 : Cond.selects RX8 yX8_heatThen yX8_heatThen ∈ gT := gT0 (i := 51) rfl rfl
theorem w_s52 : Cond.selects RX8 yX8_isWarm yX8_isWarm ∈ gT := gT0 (i := 52) rfl rfl
theorem w_s53 : Cond.selects RX8 yX8_keeps yX8_keeps ∈ gT := gT0 (i := 53) rfl rfl
theorem w_s54 : Cond.selects RX8 yX8_minutesOf yX8_minutesOf ∈ gT := gT0 (i := 54) rfl rfl
theorem w_s55 : Cond.selects RX8 yX8_whyNot yX8_whyNot ∈ gT := gT0 (i := 55) rfl rfl
theorem w_s56 : Cond.selects RX8 yX8_doneMany yX8_doneMany ∈ gT := gT0 (i := 56) rfl rfl
theorem w_s57 : Cond.selects RX8 yX8_isAgain yX8_isAgain ∈ gT := gT0 (i := 57) rfl rfl
theorem w_s58 : Cond.selects RX8 yX8_refusesTime yX8_refusesTime ∈ gT := gT0 (i := 58) rfl rfl
theorem w_s59 : Cond.selects RX8 yX8_doneBy yX8_doneBy ∈ gT := gT0 (i := 59) rfl rfl
theorem w_s60 : Cond.selects RX8 yX8_lives yX8_lives ∈ gT := gT0 (i := 60) rfl rfl
theorem w_s61 : Cond.selects RX8 yX8_ringOf yX8_ringOf ∈ gT := gT0 (i := 61) rfl rfl
theorem w_s62 : Cond.selects RX8 yX8_led yX8_led ∈ gT := gT0 (i := 62) rfl rfl
theorem w_s63 : Cond.selects RX8 yX8_takesRhythm yX8_takesRhythm ∈ gT := gT0 (i := 63) rfl rfl
theorem w_s64 : Cond.selects RX8 yX8_holdsBy yX8_holdsBy ∈ gT := gT0 (i := 64) rfl rfl
theorem w_s65 : Cond.selects RX8 yX8_pulling yX8_pulling ∈ gT := gT0 (i := 65) rfl rfl
theorem w_s66 : Cond.selects RX8 yX8_waves yX8_waves ∈ gT := gT0 (i := 66) rfl rfl
theorem w_s67 : Cond.selects RX8 yX8_payOfAll yX8_payOfAll ∈ gT := gT0 (i := 67) rfl rfl
theorem w_s68 : Cond.selects RX8 yX8_payOf yX8_payOf ∈ gT := gT0 (i := 68) rfl rfl
theorem w_s69 : Cond.selects RX8 yX8_state yX8_state ∈ gT := gT0 (i := 69) rfl rfl
theorem w_s70 : Cond.selects RX8 yX8_meets yX8_meets ∈ gT := gT0 (i := 70) rfl rfl
theorem w_s71 : Cond.selects RX8 yX8_doesAll yX8_doesAll ∈ gT := gT0 (i := 71) rfl rfl
theorem w_s72 : Cond.selects RX8 yX8_becomes yX8_becomes ∈ gT := gT0 (i := 72) rfl rfl
theorem w_s73 : Cond.selects RX8 yX8_refusesSeen yX8_refusesSeen ∈ gT := gT0 (i := 73) rfl rfl
theorem w_s74 : Cond.selects RX8 yX8_waysSeen yX8_waysSeen ∈ gT := gT0 (i := 74) rfl rfl
theorem w_s75 : Cond.selects RX8 yX8_lays yX8_lays ∈ gT := gT0 (i := 75) rfl rfl
theorem w_s76 : Cond.selects RX8 yX8_isOneRing yX8_isOneRing ∈ gT := gT0 (i := 76) rfl rfl
theorem w_s77 : Cond.selects RX8 yX8_offBy yX8_offBy ∈ gT := gT0 (i := 77) rfl rfl
theorem w_s78 : Cond.selects RX8 yX8_refusesStranger yX8_refusesStranger ∈ gT := gT0 (i := 78) rfl rfl
theorem w_s79 : Cond.selects RX8 yX8_brings yX8_brings ∈ gT := gT0 (i := 79) rfl rfl
theorem w_s80 : Cond.selects RX8 yX8_swaps yX8_swaps ∈ gT := gT0 (i := 80) rfl rfl
theorem w_s81 : Cond.selects RX8 yX8_sumOf yX8_sumOf ∈ gT := gT0 (i := 81) rfl rfl
theorem w_s82 : Cond.selects RX8 yX8_warmOnes yX8_warmOnes ∈ gT := gT0 (i := 82) rfl rfl
theorem uwX0 : ∀ w ∈ u_ws RX0 TX0 3, w ∈ gT := fun w h => by
  obtain ⟨k, hk, rfl⟩ := List.mem_map.mp h
  have hk := List.mem_range.mp hk
  exact (match k, hk with
    | 0, _ => w_216
    | 1, _ => w_218
    | 2, _ => w_220
    | k + 3, h => absurd h (by omega))
theorem uwX1 : ∀ w ∈ u_ws RX1 TX1 4, w ∈ gT := fun w h => by
  obtain ⟨k, hk, rfl⟩ := List.mem_map.mp h
  have hk := List.mem_range.mp hk
  exact (match k, hk with
    | 0, _ => w_239
    | 1, _ => w_241
    | 2, _ => w_243
    | 3, _ => w_245
    | k + 4, h => absurd h (by omega))
theorem uwX2 : ∀ w ∈ u_ws RX2 TX2 8, w ∈ gT := fun w h => by
  obtain ⟨k, hk, rfl⟩ := List.mem_map.mp h
  have hk := List.mem_range.mp hk
  exact (match k, hk with
    | 0, _ => w_139
    | 1, _ => w_141
    | 2, _ => w_143
    | 3, _ => w_145
    | 4, _ => w_147
    | 5, _ => w_149
    | 6, _ => w_151
    | 7, _ => w_153
    | k + 8, h => absurd h (by omega))
theorem uwX3 : ∀ w ∈ u_ws RX3 TX3 6, w ∈ gT := fun w h => by
  obtain ⟨k, hk, rfl⟩ := List.mem_map.mp h
  have hk := List.mem_range.mp hk
  exact (match k, hk with
    | 0, _ => w_192
    | 1, _ => w_194
    | 2, _ => w_196
    | 3, _ => w_198
    | 4, _ => w_200
    | 5, _ => w_202
    | k + 6, h => absurd h (by omega))
theorem uwX4 : ∀ w ∈ u_ws RX4 TX4 7, w ∈ gT := fun w h => by
  obtain ⟨k, hk, rfl⟩ := List.mem_map.mp h
  have hk := List.mem_range.mp hk
  exact (match k, hk with
    | 0, _ => w_720
    | 1, _ => w_722
    | 2, _ => w_724
    | 3, _ => w_726
    | 4, _ => w_728
    | 5, _ => w_730
    | 6, _ => w_732
    | k + 7, h => absurd h (by omega))
theorem uwX5 : ∀ w ∈ u_ws RX5 TX5 15, w ∈ gT := fun w h => by
  obtain ⟨k, hk, rfl⟩ := List.mem_map.mp h
  have hk := List.mem_range.mp hk
  exact (match k, hk with
    | 0, _ => w_87
    | 1, _ => w_89
    | 2, _ => w_91
    | 3, _ => w_93
    | 4, _ => w_95
    | 5, _ => w_97
    | 6, _ => w_99
    | 7, _ => w_101
    | 8, _ => w_103
    | 9, _ => w_105
    | 10, _ => w_107
    | 11, _ => w_109
    | 12, _ => w_111
    | 13, _ => w_113
    | 14, _ => w_115
    | k + 15, h => absurd h (by omega))
theorem uwX6 : ∀ w ∈ u_ws RX6 TX6 3, w ∈ gT := fun w h => by
  obtain ⟨k, hk, rfl⟩ := List.mem_map.mp h
  have hk := List.mem_range.mp hk
  exact (match k, hk with
    | 0, _ => w_170
    | 1, _ => w_172
    | 2, _ => w_174
    | k + 3, h => absurd h (by omega))
theorem uwX7 : ∀ w ∈ u_ws RX7 TX7 10, w ∈ gT := fun w h => by
  obtain ⟨k, hk, rfl⟩ := List.mem_map.mp h
  have hk := List.mem_range.mp hk
  exact (match k, hk with
    | 0, _ => w_259
    | 1, _ => w_261
    | 2, _ => w_263
    | 3, _ => w_265
    | 4, _ => w_267
    | 5, _ => w_269
    | 6, _ => w_271
    | 7, _ => w_273
    | 8, _ => w_275
    | 9, _ => w_277
    | k + 10, h => absurd h (by omega))
theorem uwX8 : ∀ w ∈ u_ws RX8 TX8 34, w ∈ gT := fun w h => by
  obtain ⟨k, hk, rfl⟩ := List.mem_map.mp h
  have hk := List.mem_range.mp hk
  exact (match k, hk with
    | 0, _ => w_946
    | 1, _ => w_948
    | 2, _ => w_950
    | 3, _ => w_952
    | 4, _ => w_954
    | 5, _ => w_956
    | 6, _ => w_958
    | 7, _ => w_960
    | 8, _ => w_962
    | 9, _ => w_964
    | 10, _ => w_966
    | 11, _ => w_968
    | 12, _ => w_970
    | 13, _ => w_972
    | 14, _ => w_974
    | 15, _ => w_976
    | 16, _ => w_978
    | 17, _ => w_980
    | 18, _ => w_982
    | 19, _ => w_984
    | 20, _ => w_986
    | 21, _ => w_988
    | 22, _ => w_990
    | 23, _ => w_992
    | 24, _ => w_994
    | 25, _ => w_996
    | 26, _ => w_998
    | 27, _ => w_1000
    | 28, _ => w_1002
    | 29, _ => w_1004
    | 30, _ => w_1006
    | 31, _ => w_1008
    | 32, _ => w_1010
    | 33, _ => w_1012
    | k + 34, h => absurd h (by omega))
