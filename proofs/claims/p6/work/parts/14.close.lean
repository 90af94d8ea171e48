theorem dX5_read_0 : decode cX5_read 0 = .ok (.aload_n 3, 1) := by decide +kernel
theorem dX5_read_1 : decode cX5_read 1 = .ok (.invokevirtual 29, 3) := by decide +kernel
theorem dX5_read_4 : decode cX5_read 4 = .ok (.aload 4, 2) := by decide +kernel
theorem dX5_read_6 : decode cX5_read 6 = .ok (.invokevirtual 34, 3) := by decide +kernel
theorem dX5_read_9 : decode cX5_read 9 = .ok (.aload_n 0, 1) := by decide +kernel
theorem dX5_read_10 : decode cX5_read 10 = .ok (.iconst 0, 1) := by decide +kernel
theorem dX5_read_11 : decode cX5_read 11 = .ok (.putfield 37, 3) := by decide +kernel
theorem dX5_read_14 : decode cX5_read 14 = .ok (.aload_n 0, 1) := by decide +kernel
theorem dX5_read_15 : decode cX5_read 15 = .ok (.iconst (-1), 1) := by decide +kernel
theorem dX5_read_16 : decode cX5_read 16 = .ok (.putfield 41, 3) := by decide +kernel
theorem dX5_read_19 : decode cX5_read 19 = .ok (.aload_n 0, 1) := by decide +kernel
theorem dX5_read_20 : decode cX5_read 20 = .ok (.getfield 12, 3) := by decide +kernel
theorem dX5_read_23 : decode cX5_read 23 = .ok (.aload_n 1, 1) := by decide +kernel
theorem dX5_read_24 : decode cX5_read 24 = .ok (.iload_n 2, 1) := by decide +kernel
theorem dX5_read_25 : decode cX5_read 25 = .ok (.invokevirtual 44, 3) := by decide +kernel
theorem dX5_read_28 : decode cX5_read 28 = .ok (.iconst 0, 1) := by decide +kernel
theorem dX5_read_29 : decode cX5_read 29 = .ok (.istore 5, 2) := by decide +kernel
theorem dX5_read_31 : decode cX5_read 31 = .ok (.iload 5, 2) := by decide +kernel
theorem dX5_read_33 : decode cX5_read 33 = .ok (.sipush 1000, 3) := by decide +kernel
theorem dX5_read_36 : decode cX5_read 36 = .ok (.if_icmp .ge 134, 3) := by decide +kernel
theorem dX5_read_39 : decode cX5_read 39 = .ok (.aload_n 0, 1) := by decide +kernel
theorem dX5_read_40 : decode cX5_read 40 = .ok (.getfield 41, 3) := by decide +kernel
theorem dX5_read_43 : decode cX5_read 43 = .ok (.iconst (-1), 1) := by decide +kernel
theorem dX5_read_44 : decode cX5_read 44 = .ok (.if_icmp .ne 126, 3) := by decide +kernel
theorem dX5_read_47 : decode cX5_read 47 = .ok (.aload_n 0, 1) := by decide +kernel
theorem dX5_read_48 : decode cX5_read 48 = .ok (.getfield 12, 3) := by decide +kernel
theorem dX5_read_51 : decode cX5_read 51 = .ok (.getfield 48, 3) := by decide +kernel
theorem dX5_read_54 : decode cX5_read 54 = .ok (.bipush 15, 2) := by decide +kernel
theorem dX5_read_56 : decode cX5_read 56 = .ok (.if_icmp .eq 114, 3) := by decide +kernel
theorem dX5_read_59 : decode cX5_read 59 = .ok (.aload_n 0, 1) := by decide +kernel
theorem dX5_read_60 : decode cX5_read 60 = .ok (.getfield 12, 3) := by decide +kernel
theorem dX5_read_63 : decode cX5_read 63 = .ok (.getfield 48, 3) := by decide +kernel
theorem dX5_read_66 : decode cX5_read 66 = .ok (.tableswitch 86 0 8 #[50, 86, 86, 60, 68, 86, 86, 86, 78], 50) := by decide +kernel
theorem dX5_read_116 : decode cX5_read 116 = .ok (.aload_n 0, 1) := by decide +kernel
theorem dX5_read_117 : decode cX5_read 117 = .ok (.aload_n 3, 1) := by decide +kernel
theorem dX5_read_118 : decode cX5_read 118 = .ok (.aload 4, 2) := by decide +kernel
theorem dX5_read_120 : decode cX5_read 120 = .ok (.invokevirtual 51, 3) := by decide +kernel
theorem dX5_read_123 : decode cX5_read 123 = .ok (.goto 41, 3) := by decide +kernel
theorem dX5_read_126 : decode cX5_read 126 = .ok (.aload_n 0, 1) := by decide +kernel
theorem dX5_read_127 : decode cX5_read 127 = .ok (.aload_n 3, 1) := by decide +kernel
theorem dX5_read_128 : decode cX5_read 128 = .ok (.invokevirtual 55, 3) := by decide +kernel
theorem dX5_read_131 : decode cX5_read 131 = .ok (.goto 33, 3) := by decide +kernel
theorem dX5_read_134 : decode cX5_read 134 = .ok (.aload_n 0, 1) := by decide +kernel
theorem dX5_read_135 : decode cX5_read 135 = .ok (.aload_n 3, 1) := by decide +kernel
theorem dX5_read_136 : decode cX5_read 136 = .ok (.aload 4, 2) := by decide +kernel
theorem dX5_read_138 : decode cX5_read 138 = .ok (.invokevirtual 59, 3) := by decide +kernel
theorem dX5_read_141 : decode cX5_read 141 = .ok (.goto 23, 3) := by decide +kernel
theorem dX5_read_144 : decode cX5_read 144 = .ok (.aload_n 0, 1) := by decide +kernel
theorem dX5_read_145 : decode cX5_read 145 = .ok (.aload_n 3, 1) := by decide +kernel
theorem dX5_read_146 : decode cX5_read 146 = .ok (.invokevirtual 62, 3) := by decide +kernel
theorem dX5_read_149 : decode cX5_read 149 = .ok (.goto 15, 3) := by decide +kernel
theorem dX5_read_152 : decode cX5_read 152 = .ok (.aload_n 0, 1) := by decide +kernel
theorem dX5_read_153 : decode cX5_read 153 = .ok (.iconst 1, 1) := by decide +kernel
theorem dX5_read_154 : decode cX5_read 154 = .ok (.aload_n 0, 1) := by decide +kernel
theorem dX5_read_155 : decode cX5_read 155 = .ok (.getfield 12, 3) := by decide +kernel
theorem dX5_read_158 : decode cX5_read 158 = .ok (.getfield 65, 3) := by decide +kernel
theorem dX5_read_161 : decode cX5_read 161 = .ok (.invokevirtual 68, 3) := by decide +kernel
theorem dX5_read_164 : decode cX5_read 164 = .ok (.iinc 5 1, 3) := by decide +kernel
theorem dX5_read_167 : decode cX5_read 167 = .ok (.goto (-136), 3) := by decide +kernel
theorem dX5_read_170 : decode cX5_read 170 = .ok (.aload_n 0, 1) := by decide +kernel
theorem dX5_read_171 : decode cX5_read 171 = .ok (.getfield 41, 3) := by decide +kernel
theorem dX5_read_174 : decode cX5_read 174 = .ok (.iconst (-1), 1) := by decide +kernel
theorem dX5_read_175 : decode cX5_read 175 = .ok (.if_icmp .ne 8, 3) := by decide +kernel
theorem dX5_read_178 : decode cX5_read 178 = .ok (.iload 5, 2) := by decide +kernel
theorem dX5_read_180 : decode cX5_read 180 = .ok (.goto 10, 3) := by decide +kernel
theorem dX5_read_183 : decode cX5_read 183 = .ok (.bipush (-2), 2) := by decide +kernel
theorem dX5_read_185 : decode cX5_read 185 = .ok (.aload_n 0, 1) := by decide +kernel
theorem dX5_read_186 : decode cX5_read 186 = .ok (.getfield 41, 3) := by decide +kernel
theorem dX5_read_189 : decode cX5_read 189 = .ok (.isub, 1) := by decide +kernel
theorem dX5_read_190 : decode cX5_read 190 = .ok (.ireturn, 1) := by decide +kernel
theorem dX5_readClose_0 : decode cX5_readClose 0 = .ok (.aload_n 1, 1) := by decide +kernel
theorem dX5_readClose_1 : decode cX5_readClose 1 = .ok (.getfield 136, 3) := by decide +kernel
theorem dX5_readClose_4 : decode cX5_readClose 4 = .ok (.istore_n 2, 1) := by decide +kernel
theorem dX5_readClose_5 : decode cX5_readClose 5 = .ok (.iload_n 2, 1) := by decide +kernel
theorem dX5_readClose_6 : decode cX5_readClose 6 = .ok (.bipush 12, 2) := by decide +kernel
theorem dX5_readClose_8 : decode cX5_readClose 8 = .ok (.if_icmp .lt 16, 3) := by decide +kernel
theorem dX5_readClose_11 : decode cX5_readClose 11 = .ok (.aload_n 0, 1) := by decide +kernel
theorem dX5_readClose_12 : decode cX5_readClose 12 = .ok (.iconst 5, 1) := by decide +kernel
theorem dX5_readClose_13 : decode cX5_readClose 13 = .ok (.aload_n 0, 1) := by decide +kernel
theorem dX5_readClose_14 : decode cX5_readClose 14 = .ok (.getfield 12, 3) := by decide +kernel
theorem dX5_readClose_17 : decode cX5_readClose 17 = .ok (.getfield 65, 3) := by decide +kernel
theorem dX5_readClose_20 : decode cX5_readClose 20 = .ok (.invokevirtual 68, 3) := by decide +kernel
theorem dX5_readClose_23 : decode cX5_readClose 23 = .ok (.return_, 1) := by decide +kernel
theorem dX5_readClose_24 : decode cX5_readClose 24 = .ok (.aload_n 0, 1) := by decide +kernel
theorem dX5_readClose_25 : decode cX5_readClose 25 = .ok (.getfield 12, 3) := by decide +kernel
theorem dX5_readClose_28 : decode cX5_readClose 28 = .ok (.invokevirtual 75, 3) := by decide +kernel
theorem dX5_readClose_31 : decode cX5_readClose 31 = .ok (.aload_n 0, 1) := by decide +kernel
theorem dX5_readClose_32 : decode cX5_readClose 32 = .ok (.getfield 12, 3) := by decide +kernel
theorem dX5_readClose_35 : decode cX5_readClose 35 = .ok (.getfield 48, 3) := by decide +kernel
theorem dX5_readClose_38 : decode cX5_readClose 38 = .ok (.invokestatic 139, 3) := by decide +kernel
theorem dX5_readClose_41 : decode cX5_readClose 41 = .ok (.istore_n 3, 1) := by decide +kernel
theorem dX5_readClose_42 : decode cX5_readClose 42 = .ok (.iload_n 3, 1) := by decide +kernel
theorem dX5_readClose_43 : decode cX5_readClose 43 = .ok (.iconst (-1), 1) := by decide +kernel
theorem dX5_readClose_44 : decode cX5_readClose 44 = .ok (.if_icmp .ne 16, 3) := by decide +kernel
theorem dX5_readClose_47 : decode cX5_readClose 47 = .ok (.aload_n 0, 1) := by decide +kernel
theorem dX5_readClose_48 : decode cX5_readClose 48 = .ok (.iconst 1, 1) := by decide +kernel
theorem dX5_readClose_49 : decode cX5_readClose 49 = .ok (.aload_n 0, 1) := by decide +kernel
theorem dX5_readClose_50 : decode cX5_readClose 50 = .ok (.getfield 12, 3) := by decide +kernel
theorem dX5_readClose_53 : decode cX5_readClose 53 = .ok (.getfield 65, 3) := by decide +kernel
theorem dX5_readClose_56 : decode cX5_readClose 56 = .ok (.invokevirtual 68, 3) := by decide +kernel
theorem dX5_readClose_59 : decode cX5_readClose 59 = .ok (.return_, 1) := by decide +kernel
theorem dX5_readClose_60 : decode cX5_readClose 60 = .ok (.aload_n 0, 1) := by decide +kernel
theorem dX5_readClose_61 : decode cX5_readClose 61 = .ok (.getfield 12, 3) := by decide +kernel
theorem dX5_readClose_64 : decode cX5_readClose 64 = .ok (.invokevirtual 75, 3) := by decide +kernel
theorem dX5_readClose_67 : decode cX5_readClose 67 = .ok (.aload_n 1, 1) := by decide +kernel
theorem dX5_readClose_68 : decode cX5_readClose 68 = .ok (.getfield 142, 3) := by decide +kernel
theorem dX5_readClose_71 : decode cX5_readClose 71 = .ok (.iload_n 2, 1) := by decide +kernel
theorem dX5_readClose_72 : decode cX5_readClose 72 = .ok (.iload_n 3, 1) := by decide +kernel
theorem dX5_readClose_73 : decode cX5_readClose 73 = .ok (.iastore, 1) := by decide +kernel
theorem dX5_readClose_74 : decode cX5_readClose 74 = .ok (.aload_n 1, 1) := by decide +kernel
theorem dX5_readClose_75 : decode cX5_readClose 75 = .ok (.getfield 145, 3) := by decide +kernel
theorem dX5_readClose_78 : decode cX5_readClose 78 = .ok (.iload_n 2, 1) := by decide +kernel
theorem dX5_readClose_79 : decode cX5_readClose 79 = .ok (.aload_n 0, 1) := by decide +kernel
theorem dX5_readClose_80 : decode cX5_readClose 80 = .ok (.getstatic 148, 3) := by decide +kernel
theorem dX5_readClose_83 : decode cX5_readClose 83 = .ok (.iload_n 3, 1) := by decide +kernel
theorem dX5_readClose_84 : decode cX5_readClose 84 = .ok (.iaload, 1) := by decide +kernel
theorem dX5_readClose_85 : decode cX5_readClose 85 = .ok (.invokevirtual 116, 3) := by decide +kernel
theorem dX5_readClose_88 : decode cX5_readClose 88 = .ok (.iastore, 1) := by decide +kernel
theorem dX5_readClose_89 : decode cX5_readClose 89 = .ok (.aload_n 1, 1) := by decide +kernel
theorem dX5_readClose_90 : decode cX5_readClose 90 = .ok (.getfield 151, 3) := by decide +kernel
theorem dX5_readClose_93 : decode cX5_readClose 93 = .ok (.iload_n 2, 1) := by decide +kernel
theorem dX5_readClose_94 : decode cX5_readClose 94 = .ok (.iconst (-1), 1) := by decide +kernel
theorem dX5_readClose_95 : decode cX5_readClose 95 = .ok (.iastore, 1) := by decide +kernel
theorem dX5_readClose_96 : decode cX5_readClose 96 = .ok (.aload_n 1, 1) := by decide +kernel
theorem dX5_readClose_97 : decode cX5_readClose 97 = .ok (.getfield 154, 3) := by decide +kernel
theorem dX5_readClose_100 : decode cX5_readClose 100 = .ok (.iload_n 2, 1) := by decide +kernel
theorem dX5_readClose_101 : decode cX5_readClose 101 = .ok (.iconst 0, 1) := by decide +kernel
theorem dX5_readClose_102 : decode cX5_readClose 102 = .ok (.bastore, 1) := by decide +kernel
theorem dX5_readClose_103 : decode cX5_readClose 103 = .ok (.iload_n 3, 1) := by decide +kernel
theorem dX5_readClose_104 : decode cX5_readClose 104 = .ok (.iconst 3, 1) := by decide +kernel
theorem dX5_readClose_105 : decode cX5_readClose 105 = .ok (.if_icmp .ne 16, 3) := by decide +kernel
theorem dX5_readClose_108 : decode cX5_readClose 108 = .ok (.aload_n 1, 1) := by decide +kernel
theorem dX5_readClose_109 : decode cX5_readClose 109 = .ok (.getfield 151, 3) := by decide +kernel
theorem dX5_readClose_112 : decode cX5_readClose 112 = .ok (.iload_n 2, 1) := by decide +kernel
theorem dX5_readClose_113 : decode cX5_readClose 113 = .ok (.aload_n 0, 1) := by decide +kernel
theorem dX5_readClose_114 : decode cX5_readClose 114 = .ok (.invokevirtual 86, 3) := by decide +kernel
theorem dX5_readClose_117 : decode cX5_readClose 117 = .ok (.iastore, 1) := by decide +kernel
theorem dX5_readClose_118 : decode cX5_readClose 118 = .ok (.goto 35, 3) := by decide +kernel
theorem dX5_readClose_121 : decode cX5_readClose 121 = .ok (.aload_n 0, 1) := by decide +kernel
theorem dX5_readClose_122 : decode cX5_readClose 122 = .ok (.aload_n 1, 1) := by decide +kernel
theorem dX5_readClose_123 : decode cX5_readClose 123 = .ok (.getfield 158, 3) := by decide +kernel
theorem dX5_readClose_126 : decode cX5_readClose 126 = .ok (.iload_n 2, 1) := by decide +kernel
theorem dX5_readClose_127 : decode cX5_readClose 127 = .ok (.aaload, 1) := by decide +kernel
theorem dX5_readClose_128 : decode cX5_readClose 128 = .ok (.iload_n 3, 1) := by decide +kernel
theorem dX5_readClose_129 : decode cX5_readClose 129 = .ok (.iconst 1, 1) := by decide +kernel
theorem dX5_readClose_130 : decode cX5_readClose 130 = .ok (.if_icmp .ne 7, 3) := by decide +kernel
theorem dX5_readClose_133 : decode cX5_readClose 133 = .ok (.iconst 3, 1) := by decide +kernel
theorem dX5_readClose_134 : decode cX5_readClose 134 = .ok (.goto 4, 3) := by decide +kernel
theorem dX5_readClose_137 : decode cX5_readClose 137 = .ok (.iconst 1, 1) := by decide +kernel
theorem dX5_readClose_138 : decode cX5_readClose 138 = .ok (.invokevirtual 162, 3) := by decide +kernel
theorem dX5_readClose_141 : decode cX5_readClose 141 = .ok (.aload_n 1, 1) := by decide +kernel
theorem dX5_readClose_142 : decode cX5_readClose 142 = .ok (.getfield 154, 3) := by decide +kernel
theorem dX5_readClose_145 : decode cX5_readClose 145 = .ok (.iload_n 2, 1) := by decide +kernel
theorem dX5_readClose_146 : decode cX5_readClose 146 = .ok (.aload_n 0, 1) := by decide +kernel
theorem dX5_readClose_147 : decode cX5_readClose 147 = .ok (.bipush 11, 2) := by decide +kernel
theorem dX5_readClose_149 : decode cX5_readClose 149 = .ok (.invokevirtual 82, 3) := by decide +kernel
theorem dX5_readClose_152 : decode cX5_readClose 152 = .ok (.bastore, 1) := by decide +kernel
theorem dX5_readClose_153 : decode cX5_readClose 153 = .ok (.aload_n 0, 1) := by decide +kernel
theorem dX5_readClose_154 : decode cX5_readClose 154 = .ok (.bipush 14, 2) := by decide +kernel
theorem dX5_readClose_156 : decode cX5_readClose 156 = .ok (.invokevirtual 90, 3) := by decide +kernel
theorem dX5_readClose_159 : decode cX5_readClose 159 = .ok (.aload_n 0, 1) := by decide +kernel
theorem dX5_readClose_160 : decode cX5_readClose 160 = .ok (.getfield 41, 3) := by decide +kernel
theorem dX5_readClose_163 : decode cX5_readClose 163 = .ok (.iconst (-1), 1) := by decide +kernel
theorem dX5_readClose_164 : decode cX5_readClose 164 = .ok (.if_icmp .ne 13, 3) := by decide +kernel
theorem dX5_readClose_167 : decode cX5_readClose 167 = .ok (.aload_n 1, 1) := by decide +kernel
theorem dX5_readClose_168 : decode cX5_readClose 168 = .ok (.dup, 1) := by decide +kernel
theorem dX5_readClose_169 : decode cX5_readClose 169 = .ok (.getfield 136, 3) := by decide +kernel
theorem dX5_readClose_172 : decode cX5_readClose 172 = .ok (.iconst 1, 1) := by decide +kernel
theorem dX5_readClose_173 : decode cX5_readClose 173 = .ok (.iadd, 1) := by decide +kernel
theorem dX5_readClose_174 : decode cX5_readClose 174 = .ok (.putfield 136, 3) := by decide +kernel
theorem dX5_readClose_177 : decode cX5_readClose 177 = .ok (.return_, 1) := by decide +kernel
theorem qw_209 : (Cond.code yX5_closureSort cX5_closureSort 1 (some .int) : Cond) ∈ TBL := List.mem_of_getElem? (i := 333) (by decide +kernel)
theorem qw_210 : (Cond.methodLink RX5 139 yX5_closureSort : Cond) ∈ TBL := List.mem_of_getElem? (i := 331) (by decide +kernel)
theorem qw_211 : (Cond.static yX5_closureSort : Cond) ∈ TBL := List.mem_of_getElem? (i := 332) (by decide +kernel)
theorem qw_212 : (Cond.fieldLink RX5 148 "ClosedUntil$TextReader" "ASKED_OF" "[I" : Cond) ∈ TBL := List.mem_of_getElem? (i := 330) (by decide +kernel)
theorem qw_213 : (Cond.code yX5_readYears cX5_readYears 4 none : Cond) ∈ TBL := List.mem_of_getElem? (i := 337) (by decide +kernel)
theorem qw_214 : (Cond.methodLink RX5 162 yX5_readYears : Cond) ∈ TBL := List.mem_of_getElem? (i := 334) (by decide +kernel)
theorem qw_215 : (Cond.instanceMethod yX5_readYears : Cond) ∈ TBL := List.mem_of_getElem? (i := 335) (by decide +kernel)
theorem qw_216 : (Cond.selects RX5 yX5_readYears yX5_readYears : Cond) ∈ TBL := List.mem_of_getElem? (i := 336) (by decide +kernel)
theorem qw_217 : (Cond.code yX1_clear cX1_clear 1 none : Cond) ∈ TBL := List.mem_of_getElem? (i := 222) (by decide +kernel)
theorem qw_218 : (Cond.instanceMethod yX1_clear : Cond) ∈ TBL := List.mem_of_getElem? (i := 220) (by decide +kernel)
theorem qw_219 : (Cond.selects RX1 yX1_clear yX1_clear : Cond) ∈ TBL := List.mem_of_getElem? (i := 221) (by decide +kernel)
theorem qw_220 : (Cond.code yX3_clear cX3_clear 2 none : Cond) ∈ TBL := List.mem_of_getElem? (i := 147) (by decide +kernel)
theorem qw_221 : (Cond.instanceMethod yX3_clear : Cond) ∈ TBL := List.mem_of_getElem? (i := 145) (by decide +kernel)
theorem qw_222 : (Cond.selects RX3 yX3_clear yX3_clear : Cond) ∈ TBL := List.mem_of_getElem? (i := 146) (by decide +kernel)
theorem qw_223 : (Cond.code yX7_start cX7_start 3 none : Cond) ∈ TBL := List.mem_of_getElem? (i := 229) (by decide +kernel)
theorem qw_224 : (Cond.instanceMethod yX7_start : Cond) ∈ TBL := List.mem_of_getElem? (i := 227) (by decide +kernel)
theorem qw_225 : (Cond.selects RX7 yX7_start yX7_start : Cond) ∈ TBL := List.mem_of_getElem? (i := 228) (by decide +kernel)
theorem qw_226 : (Cond.code yX5_readPerson cX5_readPerson 9 none : Cond) ∈ TBL := List.mem_of_getElem? (i := 265) (by decide +kernel)
theorem qw_227 : (Cond.methodLink RX5 51 yX5_readPerson : Cond) ∈ TBL := List.mem_of_getElem? (i := 262) (by decide +kernel)
theorem qw_228 : (Cond.instanceMethod yX5_readPerson : Cond) ∈ TBL := List.mem_of_getElem? (i := 263) (by decide +kernel)
theorem qw_229 : (Cond.selects RX5 yX5_readPerson yX5_readPerson : Cond) ∈ TBL := List.mem_of_getElem? (i := 264) (by decide +kernel)
theorem qw_230 : (Cond.code yX5_readDeposit cX5_readDeposit 5 none : Cond) ∈ TBL := List.mem_of_getElem? (i := 311) (by decide +kernel)
theorem qw_231 : (Cond.methodLink RX5 55 yX5_readDeposit : Cond) ∈ TBL := List.mem_of_getElem? (i := 308) (by decide +kernel)
theorem qw_232 : (Cond.instanceMethod yX5_readDeposit : Cond) ∈ TBL := List.mem_of_getElem? (i := 309) (by decide +kernel)
theorem qw_233 : (Cond.selects RX5 yX5_readDeposit yX5_readDeposit : Cond) ∈ TBL := List.mem_of_getElem? (i := 310) (by decide +kernel)
theorem qw_234 : (Cond.code yX5_readPiece cX5_readPiece 6 none : Cond) ∈ TBL := List.mem_of_getElem? (i := 315) (by decide +kernel)
theorem qw_235 : (Cond.methodLink RX5 59 yX5_readPiece : Cond) ∈ TBL := List.mem_of_getElem? (i := 312) (by decide +kernel)
theorem qw_236 : (Cond.instanceMethod yX5_readPiece : Cond) ∈ TBL := List.mem_of_getElem? (i := 313) (by decide +kernel)
theorem qw_237 : (Cond.selects RX5 yX5_readPiece yX5_readPiece : Cond) ∈ TBL := List.mem_of_getElem? (i := 314) (by decide +kernel)
theorem qw_238 : (Cond.code yX5_readClose cX5_readClose 4 none : Cond) ∈ TBL := List.mem_of_getElem? (i := 329) (by decide +kernel)
theorem qw_239 : (Cond.methodLink RX5 62 yX5_readClose : Cond) ∈ TBL := List.mem_of_getElem? (i := 326) (by decide +kernel)
theorem qw_240 : (Cond.instanceMethod yX5_readClose : Cond) ∈ TBL := List.mem_of_getElem? (i := 327) (by decide +kernel)
theorem qw_241 : (Cond.selects RX5 yX5_readClose yX5_readClose : Cond) ∈ TBL := List.mem_of_getElem? (i := 328) (by decide +kernel)
theorem rgL13_3dfef5c {c0 c1 c2 c3 c4 c5 c6 c7 c8 c9 c10 c11 c12 : Nat × va_E} {R : va_W} : (([c0, c1, c2, c3, c4, c5, c6, c7, c8, c9, c10, c11, c12] ++ R : va_W))[7]? = some c7 := rfl
theorem rgL13_4f8ef85 {c0 c1 c2 c3 c4 c5 c6 c7 c8 c9 c10 c11 c12 : Nat × va_E} {R : va_W} : (([c0, c1, c2, c3, c4, c5, c6, c7, c8, c9, c10, c11, c12] ++ R : va_W))[0]? = some c0 := rfl
theorem rgP13_0e61253 {D : va_G} {cl : List vw_C} {H : Heap} {c0 c1 c2 c3 c4 c5 c6 c7 c8 c9 c10 c11 c12 : Nat × va_E} {R : va_W} (h : va_P D cl ([c0, c1, c2, c3, c4, c5, c6, c7, c8, c9, c10, c11, c12] ++ R) H) : va_P D cl ([c1, c2, c3]) H := h.sub (ws' := [c1, c2, c3]) [1, 2, 3] rfl
theorem rgK11_8cec9cd {D : va_G} {cl : List vw_C} {U : State} {t0 t1 t2 t3 t4 t5 t6 t7 t8 t9 t10 : ClassId × FieldType} (h : va_K D cl [t0, t1, t2, t3, t4, t5, t6, t7, t8, t9, t10] U) : va_K D cl [t0, t1] U := h.sub (tys' := [t0, t1]) [0, 1] rfl
theorem rgD13_e548b04 {A : Nat → Prop} {c0 c1 c2 c3 c4 c5 c6 c7 c8 c9 c10 c11 c12 : Nat × va_E} {R : va_W} (h : va_D A ([c0, c1, c2, c3, c4, c5, c6, c7, c8, c9, c10, c11, c12] ++ R)) : va_D A ([c1, c2, c3]) := h.sub (ws' := [c1, c2, c3]) [1, 2, 3] (by decide +kernel) rfl
theorem rgL13_20d93e8 {c0 c1 c2 c3 c4 c5 c6 c7 c8 c9 c10 c11 c12 : Nat × va_E} {R : va_W} : (([c0, c1, c2, c3, c4, c5, c6, c7, c8, c9, c10, c11, c12] ++ R : va_W))[1]? = some c1 := rfl
theorem rgJ13_8625cac {A0 : Nat → Prop} {D : va_G} {cl : List vw_C} {H H1 : Heap} {c0 c1 c2 c3 c4 c5 c6 c7 c8 c9 c10 c11 c12 : Nat × va_E} {d0 d1 d2 : Nat × va_E} {R : va_W} (hP : va_P D cl ([c0, c1, c2, c3, c4, c5, c6, c7, c8, c9, c10, c11, c12] ++ R) H) (hD : va_D A0 ([c0, c1, c2, c3, c4, c5, c6, c7, c8, c9, c10, c11, c12] ++ R)) (hk : ∀ q : Nat, q < H.size → ¬ va_A ([c1, c2, c3]) H.size q → H1[q]? = H[q]?) (hF : ∀ q, va_A ([c1, c2, c3]) H.size q → A0 q) (hP1 : va_P D cl ([d0, d1, d2]) H1) (hD1 : va_D (va_A ([c1, c2, c3]) H.size) ([d0, d1, d2])) : va_P D cl ([c0, d0, d1, d2, c4, c5, c6, c7, c8, c9, c10, c11, c12] ++ R) H1 ∧ va_D A0 ([c0, d0, d1, d2, c4, c5, c6, c7, c8, c9, c10, c11, c12] ++ R) := by
  obtain ⟨h1, h2⟩ := va_joinQ (X := [c0, c1, c2, c3, c4, c5, c6, c7, c8, c9, c10, c11, c12]) (cx := [c1, c2, c3]) (wr := [c0, c4, c5, c6, c7, c8, c9, c10, c11, c12]) (w1 := [d0, d1, d2]) hP hD [1, 2, 3] [0, 4, 5, 6, 7, 8, 9, 10, 11, 12] rfl rfl (by decide +kernel) (by decide +kernel) hk hF hP1 hD1
  exact ⟨va_P.part (X := [c0, c4, c5, c6, c7, c8, c9, c10, c11, c12, d0, d1, d2]) (cx := [c0, d0, d1, d2, c4, c5, c6, c7, c8, c9, c10, c11, c12]) h1 [0, 10, 11, 12, 1, 2, 3, 4, 5, 6, 7, 8, 9] rfl, va_D.part (X := [c0, c4, c5, c6, c7, c8, c9, c10, c11, c12, d0, d1, d2]) (cx := [c0, d0, d1, d2, c4, c5, c6, c7, c8, c9, c10, c11, c12]) h2 [0, 10, 11, 12, 1, 2, 3, 4, 5, 6, 7, 8, 9] (by decide +kernel) rfl⟩
theorem rgP13_86cfdf2 {D : va_G} {cl : List vw_C} {H : Heap} {c0 c1 c2 c3 c4 c5 c6 c7 c8 c9 c10 c11 c12 : Nat × va_E} {R : va_W} (h : va_P D cl ([c0, c1, c2, c3, c4, c5, c6, c7, c8, c9, c10, c11, c12] ++ R) H) : va_P D cl ([]) H := h.sub (ws' := []) [] rfl
theorem rgK11_ef93369 {D : va_G} {cl : List vw_C} {U : State} {t0 t1 t2 t3 t4 t5 t6 t7 t8 t9 t10 : ClassId × FieldType} (h : va_K D cl [t0, t1, t2, t3, t4, t5, t6, t7, t8, t9, t10] U) : va_K D cl [] U := h.sub (tys' := []) [] rfl
theorem rgL13_0da233f {c0 c1 c2 c3 c4 c5 c6 c7 c8 c9 c10 c11 c12 : Nat × va_E} {R : va_W} : (([c0, c1, c2, c3, c4, c5, c6, c7, c8, c9, c10, c11, c12] ++ R : va_W))[8]? = some c8 := rfl
theorem rgT11_777088d {t0 t1 t2 t3 t4 t5 t6 t7 t8 t9 t10 : ClassId × FieldType} : (([t0, t1, t2, t3, t4, t5, t6, t7, t8, t9, t10] : List (ClassId × FieldType)))[5]? = some t5 := rfl
theorem rgS13_d68fb3f {A : Nat → Prop} {D : va_G} {cl : List vw_C} {H : Heap} {c0 c1 c2 c3 c4 c5 c6 c7 c8 c9 c10 c11 c12 : Nat × va_E} {R : va_W} {d e : Nat × va_E} (hP : va_P D cl (([c0, c1, c2, c3, c4, c5, c6, c7, c8, c9, c10, c11, c12] ++ R).set 8 d) H) (hD : va_D A (([c0, c1, c2, c3, c4, c5, c6, c7, c8, c9, c10, c11, c12] ++ R).set 8 d)) (h : d = e) : va_P D cl ([c0, c1, c2, c3, c4, c5, c6, c7, e, c9, c10, c11, c12] ++ R) H ∧ va_D A ([c0, c1, c2, c3, c4, c5, c6, c7, e, c9, c10, c11, c12] ++ R) := by subst h; exact ⟨hP, hD⟩
theorem rgP13_5ece228 {D : va_G} {cl : List vw_C} {H : Heap} {c0 c1 c2 c3 c4 c5 c6 c7 c8 c9 c10 c11 c12 : Nat × va_E} {R : va_W} (h : va_P D cl ([c0, c1, c2, c3, c4, c5, c6, c7, c8, c9, c10, c11, c12] ++ R) H) : va_P D cl ([c0, c1, c2, c3, c4, c5, c6]) H := h.sub (ws' := [c0, c1, c2, c3, c4, c5, c6]) [0, 1, 2, 3, 4, 5, 6] rfl
theorem rgK11_4989d35 {D : va_G} {cl : List vw_C} {U : State} {t0 t1 t2 t3 t4 t5 t6 t7 t8 t9 t10 : ClassId × FieldType} (h : va_K D cl [t0, t1, t2, t3, t4, t5, t6, t7, t8, t9, t10] U) : va_K D cl [t0, t1, t2, t3, t4] U := h.sub (tys' := [t0, t1, t2, t3, t4]) [0, 1, 2, 3, 4] rfl
theorem rgD13_8b6977f {A : Nat → Prop} {c0 c1 c2 c3 c4 c5 c6 c7 c8 c9 c10 c11 c12 : Nat × va_E} {R : va_W} (h : va_D A ([c0, c1, c2, c3, c4, c5, c6, c7, c8, c9, c10, c11, c12] ++ R)) : va_D A ([c0, c1, c2, c3, c4, c5, c6]) := h.sub (ws' := [c0, c1, c2, c3, c4, c5, c6]) [0, 1, 2, 3, 4, 5, 6] (by decide +kernel) rfl
theorem rgJ13_c93341e {A0 : Nat → Prop} {D : va_G} {cl : List vw_C} {H H1 : Heap} {c0 c1 c2 c3 c4 c5 c6 c7 c8 c9 c10 c11 c12 : Nat × va_E} {d0 d1 d2 d3 d4 d5 d6 : Nat × va_E} {R : va_W} (hP : va_P D cl ([c0, c1, c2, c3, c4, c5, c6, c7, c8, c9, c10, c11, c12] ++ R) H) (hD : va_D A0 ([c0, c1, c2, c3, c4, c5, c6, c7, c8, c9, c10, c11, c12] ++ R)) (hk : ∀ q : Nat, q < H.size → ¬ va_A ([c0, c1, c2, c3, c4, c5, c6]) H.size q → H1[q]? = H[q]?) (hF : ∀ q, va_A ([c0, c1, c2, c3, c4, c5, c6]) H.size q → A0 q) (hP1 : va_P D cl ([d0, d1, d2, d3, d4, d5, d6]) H1) (hD1 : va_D (va_A ([c0, c1, c2, c3, c4, c5, c6]) H.size) ([d0, d1, d2, d3, d4, d5, d6])) : va_P D cl ([d0, d1, d2, d3, d4, d5, d6, c7, c8, c9, c10, c11, c12] ++ R) H1 ∧ va_D A0 ([d0, d1, d2, d3, d4, d5, d6, c7, c8, c9, c10, c11, c12] ++ R) := by
  obtain ⟨h1, h2⟩ := va_joinQ (X := [c0, c1, c2, c3, c4, c5, c6, c7, c8, c9, c10, c11, c12]) (cx := [c0, c1, c2, c3, c4, c5, c6]) (wr := [c7, c8, c9, c10, c11, c12]) (w1 := [d0, d1, d2, d3, d4, d5, d6]) hP hD [0, 1, 2, 3, 4, 5, 6] [7, 8, 9, 10, 11, 12] rfl rfl (by decide +kernel) (by decide +kernel) hk hF hP1 hD1
  exact ⟨va_P.part (X := [c7, c8, c9, c10, c11, c12, d0, d1, d2, d3, d4, d5, d6]) (cx := [d0, d1, d2, d3, d4, d5, d6, c7, c8, c9, c10, c11, c12]) h1 [6, 7, 8, 9, 10, 11, 12, 0, 1, 2, 3, 4, 5] rfl, va_D.part (X := [c7, c8, c9, c10, c11, c12, d0, d1, d2, d3, d4, d5, d6]) (cx := [d0, d1, d2, d3, d4, d5, d6, c7, c8, c9, c10, c11, c12]) h2 [6, 7, 8, 9, 10, 11, 12, 0, 1, 2, 3, 4, 5] (by decide +kernel) rfl⟩
theorem rgL13_387d1cb {c0 c1 c2 c3 c4 c5 c6 c7 c8 c9 c10 c11 c12 : Nat × va_E} {R : va_W} : (([c0, c1, c2, c3, c4, c5, c6, c7, c8, c9, c10, c11, c12] ++ R : va_W))[9]? = some c9 := rfl
theorem rgT11_f77e765 {t0 t1 t2 t3 t4 t5 t6 t7 t8 t9 t10 : ClassId × FieldType} : (([t0, t1, t2, t3, t4, t5, t6, t7, t8, t9, t10] : List (ClassId × FieldType)))[6]? = some t6 := rfl
theorem rgS13_06e2eda {A : Nat → Prop} {D : va_G} {cl : List vw_C} {H : Heap} {c0 c1 c2 c3 c4 c5 c6 c7 c8 c9 c10 c11 c12 : Nat × va_E} {R : va_W} {d e : Nat × va_E} (hP : va_P D cl (([c0, c1, c2, c3, c4, c5, c6, c7, c8, c9, c10, c11, c12] ++ R).set 9 d) H) (hD : va_D A (([c0, c1, c2, c3, c4, c5, c6, c7, c8, c9, c10, c11, c12] ++ R).set 9 d)) (h : d = e) : va_P D cl ([c0, c1, c2, c3, c4, c5, c6, c7, c8, e, c10, c11, c12] ++ R) H ∧ va_D A ([c0, c1, c2, c3, c4, c5, c6, c7, c8, e, c10, c11, c12] ++ R) := by subst h; exact ⟨hP, hD⟩
theorem rgL13_a477ea7 {c0 c1 c2 c3 c4 c5 c6 c7 c8 c9 c10 c11 c12 : Nat × va_E} {R : va_W} : (([c0, c1, c2, c3, c4, c5, c6, c7, c8, c9, c10, c11, c12] ++ R : va_W))[12]? = some c12 := rfl
theorem rgT11_da469ea {t0 t1 t2 t3 t4 t5 t6 t7 t8 t9 t10 : ClassId × FieldType} : (([t0, t1, t2, t3, t4, t5, t6, t7, t8, t9, t10] : List (ClassId × FieldType)))[9]? = some t9 := rfl
theorem rgS13_4fd70f0 {A : Nat → Prop} {D : va_G} {cl : List vw_C} {H : Heap} {c0 c1 c2 c3 c4 c5 c6 c7 c8 c9 c10 c11 c12 : Nat × va_E} {R : va_W} {d e : Nat × va_E} (hP : va_P D cl (([c0, c1, c2, c3, c4, c5, c6, c7, c8, c9, c10, c11, c12] ++ R).set 12 d) H) (hD : va_D A (([c0, c1, c2, c3, c4, c5, c6, c7, c8, c9, c10, c11, c12] ++ R).set 12 d)) (h : d = e) : va_P D cl ([c0, c1, c2, c3, c4, c5, c6, c7, c8, c9, c10, c11, e] ++ R) H ∧ va_D A ([c0, c1, c2, c3, c4, c5, c6, c7, c8, c9, c10, c11, e] ++ R) := by subst h; exact ⟨hP, hD⟩
theorem rgL13_dfa28fb {c0 c1 c2 c3 c4 c5 c6 c7 c8 c9 c10 c11 c12 : Nat × va_E} {R : va_W} : (([c0, c1, c2, c3, c4, c5, c6, c7, c8, c9, c10, c11, c12] ++ R : va_W))[10]? = some c10 := rfl
theorem rgT11_33e0f70 {t0 t1 t2 t3 t4 t5 t6 t7 t8 t9 t10 : ClassId × FieldType} : (([t0, t1, t2, t3, t4, t5, t6, t7, t8, t9, t10] : List (ClassId × FieldType)))[7]? = some t7 := rfl
theorem rgS13_b237c7b {A : Nat → Prop} {D : va_G} {cl : List vw_C} {H : Heap} {c0 c1 c2 c3 c4 c5 c6 c7 c8 c9 c10 c11 c12 : Nat × va_E} {R : va_W} {d e : Nat × va_E} (hP : va_P D cl (([c0, c1, c2, c3, c4, c5, c6, c7, c8, c9, c10, c11, c12] ++ R).set 10 d) H) (hD : va_D A (([c0, c1, c2, c3, c4, c5, c6, c7, c8, c9, c10, c11, c12] ++ R).set 10 d)) (h : d = e) : va_P D cl ([c0, c1, c2, c3, c4, c5, c6, c7, c8, c9, e, c11, c12] ++ R) H ∧ va_D A ([c0, c1, c2, c3, c4, c5, c6, c7, c8, c9, e, c11, c12] ++ R) := by subst h; exact ⟨hP, hD⟩
theorem rgL13_c925712 {c0 c1 c2 c3 c4 c5 c6 c7 c8 c9 c10 c11 c12 : Nat × va_E} {R : va_W} : (([c0, c1, c2, c3, c4, c5, c6, c7, c8, c9, c10, c11, c12] ++ R : va_W))[11]? = some c11 := rfl
theorem rgT11_c2c91f9 {t0 t1 t2 t3 t4 t5 t6 t7 t8 t9 t10 : ClassId × FieldType} : (([t0, t1, t2, t3, t4, t5, t6, t7, t8, t9, t10] : List (ClassId × FieldType)))[8]? = some t8 := rfl
theorem rgP13_e357524 {D : va_G} {cl : List vw_C} {H : Heap} {c0 c1 c2 c3 c4 c5 c6 c7 c8 c9 c10 c11 c12 : Nat × va_E} {R : va_W} (h : va_P D cl ([c0, c1, c2, c3, c4, c5, c6, c7, c8, c9, c10, c11, c12] ++ R) H) : va_P D cl ([c0, c1, c2, c3] ++ R) H := h.part (X := [c0, c1, c2, c3, c4, c5, c6, c7, c8, c9, c10, c11, c12]) (cx := [c0, c1, c2, c3]) [0, 1, 2, 3] rfl
theorem rgD13_c044789 {A : Nat → Prop} {c0 c1 c2 c3 c4 c5 c6 c7 c8 c9 c10 c11 c12 : Nat × va_E} {R : va_W} (h : va_D A ([c0, c1, c2, c3, c4, c5, c6, c7, c8, c9, c10, c11, c12] ++ R)) : va_D A ([c0, c1, c2, c3] ++ R) := h.part (X := [c0, c1, c2, c3, c4, c5, c6, c7, c8, c9, c10, c11, c12]) (cx := [c0, c1, c2, c3]) [0, 1, 2, 3] (by decide +kernel) rfl
theorem rgJ13_63bf4f8 {A0 : Nat → Prop} {D : va_G} {cl : List vw_C} {H H1 : Heap} {c0 c1 c2 c3 c4 c5 c6 c7 c8 c9 c10 c11 c12 : Nat × va_E} {d0 d1 d2 d3 : Nat × va_E} {R R1 : va_W} (hP : va_P D cl ([c0, c1, c2, c3, c4, c5, c6, c7, c8, c9, c10, c11, c12] ++ R) H) (hD : va_D A0 ([c0, c1, c2, c3, c4, c5, c6, c7, c8, c9, c10, c11, c12] ++ R)) (hk : ∀ q : Nat, q < H.size → ¬ va_A ([c0, c1, c2, c3] ++ R) H.size q → H1[q]? = H[q]?) (hF : ∀ q, va_A ([c0, c1, c2, c3] ++ R) H.size q → A0 q) (hP1 : va_P D cl ([d0, d1, d2, d3] ++ R1) H1) (hD1 : va_D (va_A ([c0, c1, c2, c3] ++ R) H.size) ([d0, d1, d2, d3] ++ R1)) : va_P D cl ([d0, d1, d2, d3, c4, c5, c6, c7, c8, c9, c10, c11, c12] ++ R1) H1 ∧ va_D A0 ([d0, d1, d2, d3, c4, c5, c6, c7, c8, c9, c10, c11, c12] ++ R1) := by
  obtain ⟨h1, h2⟩ := va_joinP (X := [c0, c1, c2, c3, c4, c5, c6, c7, c8, c9, c10, c11, c12]) (cx := [c0, c1, c2, c3]) (wr := [c4, c5, c6, c7, c8, c9, c10, c11, c12]) (rx := [d0, d1, d2, d3]) hP hD [0, 1, 2, 3] [4, 5, 6, 7, 8, 9, 10, 11, 12] rfl rfl (by decide +kernel) (by decide +kernel) hk hF hP1 hD1
  exact ⟨va_P.part (X := [c4, c5, c6, c7, c8, c9, c10, c11, c12, d0, d1, d2, d3]) (cx := [d0, d1, d2, d3, c4, c5, c6, c7, c8, c9, c10, c11, c12]) h1 [9, 10, 11, 12, 0, 1, 2, 3, 4, 5, 6, 7, 8] rfl, va_D.part (X := [c4, c5, c6, c7, c8, c9, c10, c11, c12, d0, d1, d2, d3]) (cx := [d0, d1, d2, d3, c4, c5, c6, c7, c8, c9, c10, c11, c12]) h2 [9, 10, 11, 12, 0, 1, 2, 3, 4, 5, 6, 7, 8] (by decide +kernel) rfl⟩
theorem rgP13_49f9aa6 {D : va_G} {cl : List vw_C} {H : Heap} {c0 c1 c2 c3 c4 c5 c6 c7 c8 c9 c10 c11 c12 : Nat × va_E} {R : va_W} (h : va_P D cl ([c0, c1, c2, c3, c4, c5, c6, c7, c8, c9, c10, c11, c12] ++ R) H) : va_P D cl ([c0, c1, c2, c3]) H := h.sub (ws' := [c0, c1, c2, c3]) [0, 1, 2, 3] rfl
theorem rgD13_acf4cb5 {A : Nat → Prop} {c0 c1 c2 c3 c4 c5 c6 c7 c8 c9 c10 c11 c12 : Nat × va_E} {R : va_W} (h : va_D A ([c0, c1, c2, c3, c4, c5, c6, c7, c8, c9, c10, c11, c12] ++ R)) : va_D A ([c0, c1, c2, c3]) := h.sub (ws' := [c0, c1, c2, c3]) [0, 1, 2, 3] (by decide +kernel) rfl
theorem rgJ13_a63108a {A0 : Nat → Prop} {D : va_G} {cl : List vw_C} {H H1 : Heap} {c0 c1 c2 c3 c4 c5 c6 c7 c8 c9 c10 c11 c12 : Nat × va_E} {d0 d1 d2 d3 : Nat × va_E} {R : va_W} (hP : va_P D cl ([c0, c1, c2, c3, c4, c5, c6, c7, c8, c9, c10, c11, c12] ++ R) H) (hD : va_D A0 ([c0, c1, c2, c3, c4, c5, c6, c7, c8, c9, c10, c11, c12] ++ R)) (hk : ∀ q : Nat, q < H.size → ¬ va_A ([c0, c1, c2, c3]) H.size q → H1[q]? = H[q]?) (hF : ∀ q, va_A ([c0, c1, c2, c3]) H.size q → A0 q) (hP1 : va_P D cl ([d0, d1, d2, d3]) H1) (hD1 : va_D (va_A ([c0, c1, c2, c3]) H.size) ([d0, d1, d2, d3])) : va_P D cl ([d0, d1, d2, d3, c4, c5, c6, c7, c8, c9, c10, c11, c12] ++ R) H1 ∧ va_D A0 ([d0, d1, d2, d3, c4, c5, c6, c7, c8, c9, c10, c11, c12] ++ R) := by
  obtain ⟨h1, h2⟩ := va_joinQ (X := [c0, c1, c2, c3, c4, c5, c6, c7, c8, c9, c10, c11, c12]) (cx := [c0, c1, c2, c3]) (wr := [c4, c5, c6, c7, c8, c9, c10, c11, c12]) (w1 := [d0, d1, d2, d3]) hP hD [0, 1, 2, 3] [4, 5, 6, 7, 8, 9, 10, 11, 12] rfl rfl (by decide +kernel) (by decide +kernel) hk hF hP1 hD1
  exact ⟨va_P.part (X := [c4, c5, c6, c7, c8, c9, c10, c11, c12, d0, d1, d2, d3]) (cx := [d0, d1, d2, d3, c4, c5, c6, c7, c8, c9, c10, c11, c12]) h1 [9, 10, 11, 12, 0, 1, 2, 3, 4, 5, 6, 7, 8] rfl, va_D.part (X := [c4, c5, c6, c7, c8, c9, c10, c11, c12, d0, d1, d2, d3]) (cx := [d0, d1, d2, d3, c4, c5, c6, c7, c8, c9, c10, c11, c12]) h2 [9, 10, 11, 12, 0, 1, 2, 3, 4, 5, 6, 7, 8] (by decide +kernel) rfl⟩
theorem rgS13_3f9ca5a {A : Nat → Prop} {D : va_G} {cl : List vw_C} {H : Heap} {c0 c1 c2 c3 c4 c5 c6 c7 c8 c9 c10 c11 c12 : Nat × va_E} {R : va_W} {d e : Nat × va_E} (hP : va_P D cl (([c0, c1, c2, c3, c4, c5, c6, c7, c8, c9, c10, c11, c12] ++ R).set 7 d) H) (hD : va_D A (([c0, c1, c2, c3, c4, c5, c6, c7, c8, c9, c10, c11, c12] ++ R).set 7 d)) (h : d = e) : va_P D cl ([c0, c1, c2, c3, c4, c5, c6, e, c8, c9, c10, c11, c12] ++ R) H ∧ va_D A ([c0, c1, c2, c3, c4, c5, c6, e, c8, c9, c10, c11, c12] ++ R) := by subst h; exact ⟨hP, hD⟩
theorem rgP13_c8d6983 {D : va_G} {cl : List vw_C} {H : Heap} {c0 c1 c2 c3 c4 c5 c6 c7 c8 c9 c10 c11 c12 : Nat × va_E} {R : va_W} (h : va_P D cl ([c0, c1, c2, c3, c4, c5, c6, c7, c8, c9, c10, c11, c12] ++ R) H) : va_P D cl ([c0]) H := h.sub (ws' := [c0]) [0] rfl
theorem rgD13_6a74522 {A : Nat → Prop} {c0 c1 c2 c3 c4 c5 c6 c7 c8 c9 c10 c11 c12 : Nat × va_E} {R : va_W} (h : va_D A ([c0, c1, c2, c3, c4, c5, c6, c7, c8, c9, c10, c11, c12] ++ R)) : va_D A ([c0]) := h.sub (ws' := [c0]) [0] (by decide +kernel) rfl
theorem rgJ13_352f835 {A0 : Nat → Prop} {D : va_G} {cl : List vw_C} {H H1 : Heap} {c0 c1 c2 c3 c4 c5 c6 c7 c8 c9 c10 c11 c12 : Nat × va_E} {d0 : Nat × va_E} {R : va_W} (hP : va_P D cl ([c0, c1, c2, c3, c4, c5, c6, c7, c8, c9, c10, c11, c12] ++ R) H) (hD : va_D A0 ([c0, c1, c2, c3, c4, c5, c6, c7, c8, c9, c10, c11, c12] ++ R)) (hk : ∀ q : Nat, q < H.size → ¬ va_A ([c0]) H.size q → H1[q]? = H[q]?) (hF : ∀ q, va_A ([c0]) H.size q → A0 q) (hP1 : va_P D cl ([d0]) H1) (hD1 : va_D (va_A ([c0]) H.size) ([d0])) : va_P D cl ([d0, c1, c2, c3, c4, c5, c6, c7, c8, c9, c10, c11, c12] ++ R) H1 ∧ va_D A0 ([d0, c1, c2, c3, c4, c5, c6, c7, c8, c9, c10, c11, c12] ++ R) := by
  obtain ⟨h1, h2⟩ := va_joinQ (X := [c0, c1, c2, c3, c4, c5, c6, c7, c8, c9, c10, c11, c12]) (cx := [c0]) (wr := [c1, c2, c3, c4, c5, c6, c7, c8, c9, c10, c11, c12]) (w1 := [d0]) hP hD [0] [1, 2, 3, 4, 5, 6, 7, 8, 9, 10, 11, 12] rfl rfl (by decide +kernel) (by decide +kernel) hk hF hP1 hD1
  exact ⟨va_P.part (X := [c1, c2, c3, c4, c5, c6, c7, c8, c9, c10, c11, c12, d0]) (cx := [d0, c1, c2, c3, c4, c5, c6, c7, c8, c9, c10, c11, c12]) h1 [12, 0, 1, 2, 3, 4, 5, 6, 7, 8, 9, 10, 11] rfl, va_D.part (X := [c1, c2, c3, c4, c5, c6, c7, c8, c9, c10, c11, c12, d0]) (cx := [d0, c1, c2, c3, c4, c5, c6, c7, c8, c9, c10, c11, c12]) h2 [12, 0, 1, 2, 3, 4, 5, 6, 7, 8, 9, 10, 11] (by decide +kernel) rfl⟩
theorem rgP23_76b12a0 {D : va_G} {cl : List vw_C} {H : Heap} {c0 c1 c2 c3 c4 c5 c6 c7 c8 c9 c10 c11 c12 c13 c14 c15 c16 c17 c18 c19 c20 c21 c22 : Nat × va_E} {R : va_W} (h : va_P D cl ([c0, c1, c2, c3, c4, c5, c6, c7, c8, c9, c10, c11, c12, c13, c14, c15, c16, c17, c18, c19, c20, c21, c22] ++ R) H) : va_P D cl ([c7]) H := h.sub (ws' := [c7]) [7] rfl
theorem rgK20_c4ba21f {D : va_G} {cl : List vw_C} {U : State} {t0 t1 t2 t3 t4 t5 t6 t7 t8 t9 t10 t11 t12 t13 t14 t15 t16 t17 t18 t19 : ClassId × FieldType} (h : va_K D cl [t0, t1, t2, t3, t4, t5, t6, t7, t8, t9, t10, t11, t12, t13, t14, t15, t16, t17, t18, t19] U) : va_K D cl [] U := h.sub (tys' := []) [] rfl
theorem rgD23_788af2b {A : Nat → Prop} {c0 c1 c2 c3 c4 c5 c6 c7 c8 c9 c10 c11 c12 c13 c14 c15 c16 c17 c18 c19 c20 c21 c22 : Nat × va_E} {R : va_W} (h : va_D A ([c0, c1, c2, c3, c4, c5, c6, c7, c8, c9, c10, c11, c12, c13, c14, c15, c16, c17, c18, c19, c20, c21, c22] ++ R)) : va_D A ([c7]) := h.sub (ws' := [c7]) [7] (by decide +kernel) rfl
theorem rgL23_5b6935e {c0 c1 c2 c3 c4 c5 c6 c7 c8 c9 c10 c11 c12 c13 c14 c15 c16 c17 c18 c19 c20 c21 c22 : Nat × va_E} {R : va_W} : (([c0, c1, c2, c3, c4, c5, c6, c7, c8, c9, c10, c11, c12, c13, c14, c15, c16, c17, c18, c19, c20, c21, c22] ++ R : va_W))[7]? = some c7 := rfl
theorem rgJ23_a393277 {A0 : Nat → Prop} {D : va_G} {cl : List vw_C} {H H1 : Heap} {c0 c1 c2 c3 c4 c5 c6 c7 c8 c9 c10 c11 c12 c13 c14 c15 c16 c17 c18 c19 c20 c21 c22 : Nat × va_E} {d0 : Nat × va_E} {R : va_W} (hP : va_P D cl ([c0, c1, c2, c3, c4, c5, c6, c7, c8, c9, c10, c11, c12, c13, c14, c15, c16, c17, c18, c19, c20, c21, c22] ++ R) H) (hD : va_D A0 ([c0, c1, c2, c3, c4, c5, c6, c7, c8, c9, c10, c11, c12, c13, c14, c15, c16, c17, c18, c19, c20, c21, c22] ++ R)) (hk : ∀ q : Nat, q < H.size → ¬ va_A ([c7]) H.size q → H1[q]? = H[q]?) (hF : ∀ q, va_A ([c7]) H.size q → A0 q) (hP1 : va_P D cl ([d0]) H1) (hD1 : va_D (va_A ([c7]) H.size) ([d0])) : va_P D cl ([c0, c1, c2, c3, c4, c5, c6, d0, c8, c9, c10, c11, c12, c13, c14, c15, c16, c17, c18, c19, c20, c21, c22] ++ R) H1 ∧ va_D A0 ([c0, c1, c2, c3, c4, c5, c6, d0, c8, c9, c10, c11, c12, c13, c14, c15, c16, c17, c18, c19, c20, c21, c22] ++ R) := by
  obtain ⟨h1, h2⟩ := va_joinQ (X := [c0, c1, c2, c3, c4, c5, c6, c7, c8, c9, c10, c11, c12, c13, c14, c15, c16, c17, c18, c19, c20, c21, c22]) (cx := [c7]) (wr := [c0, c1, c2, c3, c4, c5, c6, c8, c9, c10, c11, c12, c13, c14, c15, c16, c17, c18, c19, c20, c21, c22]) (w1 := [d0]) hP hD [7] [0, 1, 2, 3, 4, 5, 6, 8, 9, 10, 11, 12, 13, 14, 15, 16, 17, 18, 19, 20, 21, 22] rfl rfl (by decide +kernel) (by decide +kernel) hk hF hP1 hD1
  exact ⟨va_P.part (X := [c0, c1, c2, c3, c4, c5, c6, c8, c9, c10, c11, c12, c13, c14, c15, c16, c17, c18, c19, c20, c21, c22, d0]) (cx := [c0, c1, c2, c3, c4, c5, c6, d0, c8, c9, c10, c11, c12, c13, c14, c15, c16, c17, c18, c19, c20, c21, c22]) h1 [0, 1, 2, 3, 4, 5, 6, 22, 7, 8, 9, 10, 11, 12, 13, 14, 15, 16, 17, 18, 19, 20, 21] rfl, va_D.part (X := [c0, c1, c2, c3, c4, c5, c6, c8, c9, c10, c11, c12, c13, c14, c15, c16, c17, c18, c19, c20, c21, c22, d0]) (cx := [c0, c1, c2, c3, c4, c5, c6, d0, c8, c9, c10, c11, c12, c13, c14, c15, c16, c17, c18, c19, c20, c21, c22]) h2 [0, 1, 2, 3, 4, 5, 6, 22, 7, 8, 9, 10, 11, 12, 13, 14, 15, 16, 17, 18, 19, 20, 21] (by decide +kernel) rfl⟩
theorem rgP23_e49033d {D : va_G} {cl : List vw_C} {H : Heap} {c0 c1 c2 c3 c4 c5 c6 c7 c8 c9 c10 c11 c12 c13 c14 c15 c16 c17 c18 c19 c20 c21 c22 : Nat × va_E} {R : va_W} (h : va_P D cl ([c0, c1, c2, c3, c4, c5, c6, c7, c8, c9, c10, c11, c12, c13, c14, c15, c16, c17, c18, c19, c20, c21, c22] ++ R) H) : va_P D cl ([c18, c19, c20, c21, c22]) H := h.sub (ws' := [c18, c19, c20, c21, c22]) [18, 19, 20, 21, 22] rfl
theorem rgK20_0fe018b {D : va_G} {cl : List vw_C} {U : State} {t0 t1 t2 t3 t4 t5 t6 t7 t8 t9 t10 t11 t12 t13 t14 t15 t16 t17 t18 t19 : ClassId × FieldType} (h : va_K D cl [t0, t1, t2, t3, t4, t5, t6, t7, t8, t9, t10, t11, t12, t13, t14, t15, t16, t17, t18, t19] U) : va_K D cl [t15, t16, t17, t18] U := h.sub (tys' := [t15, t16, t17, t18]) [15, 16, 17, 18] rfl
theorem rgD23_40ec195 {A : Nat → Prop} {c0 c1 c2 c3 c4 c5 c6 c7 c8 c9 c10 c11 c12 c13 c14 c15 c16 c17 c18 c19 c20 c21 c22 : Nat × va_E} {R : va_W} (h : va_D A ([c0, c1, c2, c3, c4, c5, c6, c7, c8, c9, c10, c11, c12, c13, c14, c15, c16, c17, c18, c19, c20, c21, c22] ++ R)) : va_D A ([c18, c19, c20, c21, c22]) := h.sub (ws' := [c18, c19, c20, c21, c22]) [18, 19, 20, 21, 22] (by decide +kernel) rfl
theorem rgL23_29d6090 {c0 c1 c2 c3 c4 c5 c6 c7 c8 c9 c10 c11 c12 c13 c14 c15 c16 c17 c18 c19 c20 c21 c22 : Nat × va_E} {R : va_W} : (([c0, c1, c2, c3, c4, c5, c6, c7, c8, c9, c10, c11, c12, c13, c14, c15, c16, c17, c18, c19, c20, c21, c22] ++ R : va_W))[18]? = some c18 := rfl
theorem rgJ23_1cb181f {A0 : Nat → Prop} {D : va_G} {cl : List vw_C} {H H1 : Heap} {c0 c1 c2 c3 c4 c5 c6 c7 c8 c9 c10 c11 c12 c13 c14 c15 c16 c17 c18 c19 c20 c21 c22 : Nat × va_E} {d0 d1 d2 d3 d4 : Nat × va_E} {R : va_W} (hP : va_P D cl ([c0, c1, c2, c3, c4, c5, c6, c7, c8, c9, c10, c11, c12, c13, c14, c15, c16, c17, c18, c19, c20, c21, c22] ++ R) H) (hD : va_D A0 ([c0, c1, c2, c3, c4, c5, c6, c7, c8, c9, c10, c11, c12, c13, c14, c15, c16, c17, c18, c19, c20, c21, c22] ++ R)) (hk : ∀ q : Nat, q < H.size → ¬ va_A ([c18, c19, c20, c21, c22]) H.size q → H1[q]? = H[q]?) (hF : ∀ q, va_A ([c18, c19, c20, c21, c22]) H.size q → A0 q) (hP1 : va_P D cl ([d0, d1, d2, d3, d4]) H1) (hD1 : va_D (va_A ([c18, c19, c20, c21, c22]) H.size) ([d0, d1, d2, d3, d4])) : va_P D cl ([c0, c1, c2, c3, c4, c5, c6, c7, c8, c9, c10, c11, c12, c13, c14, c15, c16, c17, d0, d1, d2, d3, d4] ++ R) H1 ∧ va_D A0 ([c0, c1, c2, c3, c4, c5, c6, c7, c8, c9, c10, c11, c12, c13, c14, c15, c16, c17, d0, d1, d2, d3, d4] ++ R) := by
  obtain ⟨h1, h2⟩ := va_joinQ (X := [c0, c1, c2, c3, c4, c5, c6, c7, c8, c9, c10, c11, c12, c13, c14, c15, c16, c17, c18, c19, c20, c21, c22]) (cx := [c18, c19, c20, c21, c22]) (wr := [c0, c1, c2, c3, c4, c5, c6, c7, c8, c9, c10, c11, c12, c13, c14, c15, c16, c17]) (w1 := [d0, d1, d2, d3, d4]) hP hD [18, 19, 20, 21, 22] [0, 1, 2, 3, 4, 5, 6, 7, 8, 9, 10, 11, 12, 13, 14, 15, 16, 17] rfl rfl (by decide +kernel) (by decide +kernel) hk hF hP1 hD1
  exact ⟨va_P.part (X := [c0, c1, c2, c3, c4, c5, c6, c7, c8, c9, c10, c11, c12, c13, c14, c15, c16, c17, d0, d1, d2, d3, d4]) (cx := [c0, c1, c2, c3, c4, c5, c6, c7, c8, c9, c10, c11, c12, c13, c14, c15, c16, c17, d0, d1, d2, d3, d4]) h1 [0, 1, 2, 3, 4, 5, 6, 7, 8, 9, 10, 11, 12, 13, 14, 15, 16, 17, 18, 19, 20, 21, 22] rfl, va_D.part (X := [c0, c1, c2, c3, c4, c5, c6, c7, c8, c9, c10, c11, c12, c13, c14, c15, c16, c17, d0, d1, d2, d3, d4]) (cx := [c0, c1, c2, c3, c4, c5, c6, c7, c8, c9, c10, c11, c12, c13, c14, c15, c16, c17, d0, d1, d2, d3, d4]) h2 [0, 1, 2, 3, 4, 5, 6, 7, 8, 9, 10, 11, 12, 13, 14, 15, 16, 17, 18, 19, 20, 21, 22] (by decide +kernel) rfl⟩
theorem rgP23_9038d89 {D : va_G} {cl : List vw_C} {H : Heap} {c0 c1 c2 c3 c4 c5 c6 c7 c8 c9 c10 c11 c12 c13 c14 c15 c16 c17 c18 c19 c20 c21 c22 : Nat × va_E} {R : va_W} (h : va_P D cl ([c0, c1, c2, c3, c4, c5, c6, c7, c8, c9, c10, c11, c12, c13, c14, c15, c16, c17, c18, c19, c20, c21, c22] ++ R) H) : va_P D cl ([c1, c2, c6]) H := h.sub (ws' := [c1, c2, c6]) [1, 2, 6] rfl
theorem rgK20_2850022 {D : va_G} {cl : List vw_C} {U : State} {t0 t1 t2 t3 t4 t5 t6 t7 t8 t9 t10 t11 t12 t13 t14 t15 t16 t17 t18 t19 : ClassId × FieldType} (h : va_K D cl [t0, t1, t2, t3, t4, t5, t6, t7, t8, t9, t10, t11, t12, t13, t14, t15, t16, t17, t18, t19] U) : va_K D cl [t0, t4] U := h.sub (tys' := [t0, t4]) [0, 4] rfl
theorem rgD23_5b0d7c4 {A : Nat → Prop} {c0 c1 c2 c3 c4 c5 c6 c7 c8 c9 c10 c11 c12 c13 c14 c15 c16 c17 c18 c19 c20 c21 c22 : Nat × va_E} {R : va_W} (h : va_D A ([c0, c1, c2, c3, c4, c5, c6, c7, c8, c9, c10, c11, c12, c13, c14, c15, c16, c17, c18, c19, c20, c21, c22] ++ R)) : va_D A ([c1, c2, c6]) := h.sub (ws' := [c1, c2, c6]) [1, 2, 6] (by decide +kernel) rfl
theorem rgL23_77794b2 {c0 c1 c2 c3 c4 c5 c6 c7 c8 c9 c10 c11 c12 c13 c14 c15 c16 c17 c18 c19 c20 c21 c22 : Nat × va_E} {R : va_W} : (([c0, c1, c2, c3, c4, c5, c6, c7, c8, c9, c10, c11, c12, c13, c14, c15, c16, c17, c18, c19, c20, c21, c22] ++ R : va_W))[1]? = some c1 := rfl
theorem rgJ23_4fa70d3 {A0 : Nat → Prop} {D : va_G} {cl : List vw_C} {H H1 : Heap} {c0 c1 c2 c3 c4 c5 c6 c7 c8 c9 c10 c11 c12 c13 c14 c15 c16 c17 c18 c19 c20 c21 c22 : Nat × va_E} {d0 d1 d2 : Nat × va_E} {R : va_W} (hP : va_P D cl ([c0, c1, c2, c3, c4, c5, c6, c7, c8, c9, c10, c11, c12, c13, c14, c15, c16, c17, c18, c19, c20, c21, c22] ++ R) H) (hD : va_D A0 ([c0, c1, c2, c3, c4, c5, c6, c7, c8, c9, c10, c11, c12, c13, c14, c15, c16, c17, c18, c19, c20, c21, c22] ++ R)) (hk : ∀ q : Nat, q < H.size → ¬ va_A ([c1, c2, c6]) H.size q → H1[q]? = H[q]?) (hF : ∀ q, va_A ([c1, c2, c6]) H.size q → A0 q) (hP1 : va_P D cl ([d0, d1, d2]) H1) (hD1 : va_D (va_A ([c1, c2, c6]) H.size) ([d0, d1, d2])) : va_P D cl ([c0, d0, d1, c3, c4, c5, d2, c7, c8, c9, c10, c11, c12, c13, c14, c15, c16, c17, c18, c19, c20, c21, c22] ++ R) H1 ∧ va_D A0 ([c0, d0, d1, c3, c4, c5, d2, c7, c8, c9, c10, c11, c12, c13, c14, c15, c16, c17, c18, c19, c20, c21, c22] ++ R) := by
  obtain ⟨h1, h2⟩ := va_joinQ (X := [c0, c1, c2, c3, c4, c5, c6, c7, c8, c9, c10, c11, c12, c13, c14, c15, c16, c17, c18, c19, c20, c21, c22]) (cx := [c1, c2, c6]) (wr := [c0, c3, c4, c5, c7, c8, c9, c10, c11, c12, c13, c14, c15, c16, c17, c18, c19, c20, c21, c22]) (w1 := [d0, d1, d2]) hP hD [1, 2, 6] [0, 3, 4, 5, 7, 8, 9, 10, 11, 12, 13, 14, 15, 16, 17, 18, 19, 20, 21, 22] rfl rfl (by decide +kernel) (by decide +kernel) hk hF hP1 hD1
  exact ⟨va_P.part (X := [c0, c3, c4, c5, c7, c8, c9, c10, c11, c12, c13, c14, c15, c16, c17, c18, c19, c20, c21, c22, d0, d1, d2]) (cx := [c0, d0, d1, c3, c4, c5, d2, c7, c8, c9, c10, c11, c12, c13, c14, c15, c16, c17, c18, c19, c20, c21, c22]) h1 [0, 20, 21, 1, 2, 3, 22, 4, 5, 6, 7, 8, 9, 10, 11, 12, 13, 14, 15, 16, 17, 18, 19] rfl, va_D.part (X := [c0, c3, c4, c5, c7, c8, c9, c10, c11, c12, c13, c14, c15, c16, c17, c18, c19, c20, c21, c22, d0, d1, d2]) (cx := [c0, d0, d1, c3, c4, c5, d2, c7, c8, c9, c10, c11, c12, c13, c14, c15, c16, c17, c18, c19, c20, c21, c22]) h2 [0, 20, 21, 1, 2, 3, 22, 4, 5, 6, 7, 8, 9, 10, 11, 12, 13, 14, 15, 16, 17, 18, 19] (by decide +kernel) rfl⟩
theorem rgP23_2e0d0a7 {D : va_G} {cl : List vw_C} {H : Heap} {c0 c1 c2 c3 c4 c5 c6 c7 c8 c9 c10 c11 c12 c13 c14 c15 c16 c17 c18 c19 c20 c21 c22 : Nat × va_E} {R : va_W} (h : va_P D cl ([c0, c1, c2, c3, c4, c5, c6, c7, c8, c9, c10, c11, c12, c13, c14, c15, c16, c17, c18, c19, c20, c21, c22] ++ R) H) : va_P D cl ([c0, c1, c2, c6, c3, c4, c5, c7, c8, c18, c20]) H := h.sub (ws' := [c0, c1, c2, c6, c3, c4, c5, c7, c8, c18, c20]) [0, 1, 2, 6, 3, 4, 5, 7, 8, 18, 20] rfl
theorem rgK20_87ff57a {D : va_G} {cl : List vw_C} {U : State} {t0 t1 t2 t3 t4 t5 t6 t7 t8 t9 t10 t11 t12 t13 t14 t15 t16 t17 t18 t19 : ClassId × FieldType} (h : va_K D cl [t0, t1, t2, t3, t4, t5, t6, t7, t8, t9, t10, t11, t12, t13, t14, t15, t16, t17, t18, t19] U) : va_K D cl [t0, t4, t1, t2, t3, t5, t16] U := h.sub (tys' := [t0, t4, t1, t2, t3, t5, t16]) [0, 4, 1, 2, 3, 5, 16] rfl
theorem rgD23_82a00b2 {A : Nat → Prop} {c0 c1 c2 c3 c4 c5 c6 c7 c8 c9 c10 c11 c12 c13 c14 c15 c16 c17 c18 c19 c20 c21 c22 : Nat × va_E} {R : va_W} (h : va_D A ([c0, c1, c2, c3, c4, c5, c6, c7, c8, c9, c10, c11, c12, c13, c14, c15, c16, c17, c18, c19, c20, c21, c22] ++ R)) : va_D A ([c0, c1, c2, c6, c3, c4, c5, c7, c8, c18, c20]) := h.sub (ws' := [c0, c1, c2, c6, c3, c4, c5, c7, c8, c18, c20]) [0, 1, 2, 6, 3, 4, 5, 7, 8, 18, 20] (by decide +kernel) rfl
theorem rgJ23_16b4275 {A0 : Nat → Prop} {D : va_G} {cl : List vw_C} {H H1 : Heap} {c0 c1 c2 c3 c4 c5 c6 c7 c8 c9 c10 c11 c12 c13 c14 c15 c16 c17 c18 c19 c20 c21 c22 : Nat × va_E} {d0 d1 d2 d3 d4 d5 d6 d7 d8 d9 d10 : Nat × va_E} {R : va_W} (hP : va_P D cl ([c0, c1, c2, c3, c4, c5, c6, c7, c8, c9, c10, c11, c12, c13, c14, c15, c16, c17, c18, c19, c20, c21, c22] ++ R) H) (hD : va_D A0 ([c0, c1, c2, c3, c4, c5, c6, c7, c8, c9, c10, c11, c12, c13, c14, c15, c16, c17, c18, c19, c20, c21, c22] ++ R)) (hk : ∀ q : Nat, q < H.size → ¬ va_A ([c0, c1, c2, c6, c3, c4, c5, c7, c8, c18, c20]) H.size q → H1[q]? = H[q]?) (hF : ∀ q, va_A ([c0, c1, c2, c6, c3, c4, c5, c7, c8, c18, c20]) H.size q → A0 q) (hP1 : va_P D cl ([d0, d1, d2, d3, d4, d5, d6, d7, d8, d9, d10]) H1) (hD1 : va_D (va_A ([c0, c1, c2, c6, c3, c4, c5, c7, c8, c18, c20]) H.size) ([d0, d1, d2, d3, d4, d5, d6, d7, d8, d9, d10])) : va_P D cl ([d0, d1, d2, d4, d5, d6, d3, d7, d8, c9, c10, c11, c12, c13, c14, c15, c16, c17, d9, c19, d10, c21, c22] ++ R) H1 ∧ va_D A0 ([d0, d1, d2, d4, d5, d6, d3, d7, d8, c9, c10, c11, c12, c13, c14, c15, c16, c17, d9, c19, d10, c21, c22] ++ R) := by
  obtain ⟨h1, h2⟩ := va_joinQ (X := [c0, c1, c2, c3, c4, c5, c6, c7, c8, c9, c10, c11, c12, c13, c14, c15, c16, c17, c18, c19, c20, c21, c22]) (cx := [c0, c1, c2, c6, c3, c4, c5, c7, c8, c18, c20]) (wr := [c9, c10, c11, c12, c13, c14, c15, c16, c17, c19, c21, c22]) (w1 := [d0, d1, d2, d3, d4, d5, d6, d7, d8, d9, d10]) hP hD [0, 1, 2, 6, 3, 4, 5, 7, 8, 18, 20] [9, 10, 11, 12, 13, 14, 15, 16, 17, 19, 21, 22] rfl rfl (by decide +kernel) (by decide +kernel) hk hF hP1 hD1
  exact ⟨va_P.part (X := [c9, c10, c11, c12, c13, c14, c15, c16, c17, c19, c21, c22, d0, d1, d2, d3, d4, d5, d6, d7, d8, d9, d10]) (cx := [d0, d1, d2, d4, d5, d6, d3, d7, d8, c9, c10, c11, c12, c13, c14, c15, c16, c17, d9, c19, d10, c21, c22]) h1 [12, 13, 14, 16, 17, 18, 15, 19, 20, 0, 1, 2, 3, 4, 5, 6, 7, 8, 21, 9, 22, 10, 11] rfl, va_D.part (X := [c9, c10, c11, c12, c13, c14, c15, c16, c17, c19, c21, c22, d0, d1, d2, d3, d4, d5, d6, d7, d8, d9, d10]) (cx := [d0, d1, d2, d4, d5, d6, d3, d7, d8, c9, c10, c11, c12, c13, c14, c15, c16, c17, d9, c19, d10, c21, c22]) h2 [12, 13, 14, 16, 17, 18, 15, 19, 20, 0, 1, 2, 3, 4, 5, 6, 7, 8, 21, 9, 22, 10, 11] (by decide +kernel) rfl⟩
theorem rgP23_2392579 {D : va_G} {cl : List vw_C} {H : Heap} {c0 c1 c2 c3 c4 c5 c6 c7 c8 c9 c10 c11 c12 c13 c14 c15 c16 c17 c18 c19 c20 c21 c22 : Nat × va_E} {R : va_W} (h : va_P D cl ([c0, c1, c2, c3, c4, c5, c6, c7, c8, c9, c10, c11, c12, c13, c14, c15, c16, c17, c18, c19, c20, c21, c22] ++ R) H) : va_P D cl ([c0]) H := h.sub (ws' := [c0]) [0] rfl
theorem rgD23_3f1b3fa {A : Nat → Prop} {c0 c1 c2 c3 c4 c5 c6 c7 c8 c9 c10 c11 c12 c13 c14 c15 c16 c17 c18 c19 c20 c21 c22 : Nat × va_E} {R : va_W} (h : va_D A ([c0, c1, c2, c3, c4, c5, c6, c7, c8, c9, c10, c11, c12, c13, c14, c15, c16, c17, c18, c19, c20, c21, c22] ++ R)) : va_D A ([c0]) := h.sub (ws' := [c0]) [0] (by decide +kernel) rfl
theorem rgJ23_3ef9527 {A0 : Nat → Prop} {D : va_G} {cl : List vw_C} {H H1 : Heap} {c0 c1 c2 c3 c4 c5 c6 c7 c8 c9 c10 c11 c12 c13 c14 c15 c16 c17 c18 c19 c20 c21 c22 : Nat × va_E} {d0 : Nat × va_E} {R : va_W} (hP : va_P D cl ([c0, c1, c2, c3, c4, c5, c6, c7, c8, c9, c10, c11, c12, c13, c14, c15, c16, c17, c18, c19, c20, c21, c22] ++ R) H) (hD : va_D A0 ([c0, c1, c2, c3, c4, c5, c6, c7, c8, c9, c10, c11, c12, c13, c14, c15, c16, c17, c18, c19, c20, c21, c22] ++ R)) (hk : ∀ q : Nat, q < H.size → ¬ va_A ([c0]) H.size q → H1[q]? = H[q]?) (hF : ∀ q, va_A ([c0]) H.size q → A0 q) (hP1 : va_P D cl ([d0]) H1) (hD1 : va_D (va_A ([c0]) H.size) ([d0])) : va_P D cl ([d0, c1, c2, c3, c4, c5, c6, c7, c8, c9, c10, c11, c12, c13, c14, c15, c16, c17, c18, c19, c20, c21, c22] ++ R) H1 ∧ va_D A0 ([d0, c1, c2, c3, c4, c5, c6, c7, c8, c9, c10, c11, c12, c13, c14, c15, c16, c17, c18, c19, c20, c21, c22] ++ R) := by
  obtain ⟨h1, h2⟩ := va_joinQ (X := [c0, c1, c2, c3, c4, c5, c6, c7, c8, c9, c10, c11, c12, c13, c14, c15, c16, c17, c18, c19, c20, c21, c22]) (cx := [c0]) (wr := [c1, c2, c3, c4, c5, c6, c7, c8, c9, c10, c11, c12, c13, c14, c15, c16, c17, c18, c19, c20, c21, c22]) (w1 := [d0]) hP hD [0] [1, 2, 3, 4, 5, 6, 7, 8, 9, 10, 11, 12, 13, 14, 15, 16, 17, 18, 19, 20, 21, 22] rfl rfl (by decide +kernel) (by decide +kernel) hk hF hP1 hD1
  exact ⟨va_P.part (X := [c1, c2, c3, c4, c5, c6, c7, c8, c9, c10, c11, c12, c13, c14, c15, c16, c17, c18, c19, c20, c21, c22, d0]) (cx := [d0, c1, c2, c3, c4, c5, c6, c7, c8, c9, c10, c11, c12, c13, c14, c15, c16, c17, c18, c19, c20, c21, c22]) h1 [22, 0, 1, 2, 3, 4, 5, 6, 7, 8, 9, 10, 11, 12, 13, 14, 15, 16, 17, 18, 19, 20, 21] rfl, va_D.part (X := [c1, c2, c3, c4, c5, c6, c7, c8, c9, c10, c11, c12, c13, c14, c15, c16, c17, c18, c19, c20, c21, c22, d0]) (cx := [d0, c1, c2, c3, c4, c5, c6, c7, c8, c9, c10, c11, c12, c13, c14, c15, c16, c17, c18, c19, c20, c21, c22]) h2 [22, 0, 1, 2, 3, 4, 5, 6, 7, 8, 9, 10, 11, 12, 13, 14, 15, 16, 17, 18, 19, 20, 21] (by decide +kernel) rfl⟩
theorem rgP23_f0e6431 {D : va_G} {cl : List vw_C} {H : Heap} {c0 c1 c2 c3 c4 c5 c6 c7 c8 c9 c10 c11 c12 c13 c14 c15 c16 c17 c18 c19 c20 c21 c22 : Nat × va_E} {R : va_W} (h : va_P D cl ([c0, c1, c2, c3, c4, c5, c6, c7, c8, c9, c10, c11, c12, c13, c14, c15, c16, c17, c18, c19, c20, c21, c22] ++ R) H) : va_P D cl ([c0, c1, c2, c6, c3, c4, c5, c7, c9]) H := h.sub (ws' := [c0, c1, c2, c6, c3, c4, c5, c7, c9]) [0, 1, 2, 6, 3, 4, 5, 7, 9] rfl
theorem rgK20_7711532 {D : va_G} {cl : List vw_C} {U : State} {t0 t1 t2 t3 t4 t5 t6 t7 t8 t9 t10 t11 t12 t13 t14 t15 t16 t17 t18 t19 : ClassId × FieldType} (h : va_K D cl [t0, t1, t2, t3, t4, t5, t6, t7, t8, t9, t10, t11, t12, t13, t14, t15, t16, t17, t18, t19] U) : va_K D cl [t0, t4, t1, t2, t3, t6] U := h.sub (tys' := [t0, t4, t1, t2, t3, t6]) [0, 4, 1, 2, 3, 6] rfl
theorem rgD23_6d0e63c {A : Nat → Prop} {c0 c1 c2 c3 c4 c5 c6 c7 c8 c9 c10 c11 c12 c13 c14 c15 c16 c17 c18 c19 c20 c21 c22 : Nat × va_E} {R : va_W} (h : va_D A ([c0, c1, c2, c3, c4, c5, c6, c7, c8, c9, c10, c11, c12, c13, c14, c15, c16, c17, c18, c19, c20, c21, c22] ++ R)) : va_D A ([c0, c1, c2, c6, c3, c4, c5, c7, c9]) := h.sub (ws' := [c0, c1, c2, c6, c3, c4, c5, c7, c9]) [0, 1, 2, 6, 3, 4, 5, 7, 9] (by decide +kernel) rfl
theorem rgJ23_96891c3 {A0 : Nat → Prop} {D : va_G} {cl : List vw_C} {H H1 : Heap} {c0 c1 c2 c3 c4 c5 c6 c7 c8 c9 c10 c11 c12 c13 c14 c15 c16 c17 c18 c19 c20 c21 c22 : Nat × va_E} {d0 d1 d2 d3 d4 d5 d6 d7 d8 : Nat × va_E} {R : va_W} (hP : va_P D cl ([c0, c1, c2, c3, c4, c5, c6, c7, c8, c9, c10, c11, c12, c13, c14, c15, c16, c17, c18, c19, c20, c21, c22] ++ R) H) (hD : va_D A0 ([c0, c1, c2, c3, c4, c5, c6, c7, c8, c9, c10, c11, c12, c13, c14, c15, c16, c17, c18, c19, c20, c21, c22] ++ R)) (hk : ∀ q : Nat, q < H.size → ¬ va_A ([c0, c1, c2, c6, c3, c4, c5, c7, c9]) H.size q → H1[q]? = H[q]?) (hF : ∀ q, va_A ([c0, c1, c2, c6, c3, c4, c5, c7, c9]) H.size q → A0 q) (hP1 : va_P D cl ([d0, d1, d2, d3, d4, d5, d6, d7, d8]) H1) (hD1 : va_D (va_A ([c0, c1, c2, c6, c3, c4, c5, c7, c9]) H.size) ([d0, d1, d2, d3, d4, d5, d6, d7, d8])) : va_P D cl ([d0, d1, d2, d4, d5, d6, d3, d7, c8, d8, c10, c11, c12, c13, c14, c15, c16, c17, c18, c19, c20, c21, c22] ++ R) H1 ∧ va_D A0 ([d0, d1, d2, d4, d5, d6, d3, d7, c8, d8, c10, c11, c12, c13, c14, c15, c16, c17, c18, c19, c20, c21, c22] ++ R) := by
  obtain ⟨h1, h2⟩ := va_joinQ (X := [c0, c1, c2, c3, c4, c5, c6, c7, c8, c9, c10, c11, c12, c13, c14, c15, c16, c17, c18, c19, c20, c21, c22]) (cx := [c0, c1, c2, c6, c3, c4, c5, c7, c9]) (wr := [c8, c10, c11, c12, c13, c14, c15, c16, c17, c18, c19, c20, c21, c22]) (w1 := [d0, d1, d2, d3, d4, d5, d6, d7, d8]) hP hD [0, 1, 2, 6, 3, 4, 5, 7, 9] [8, 10, 11, 12, 13, 14, 15, 16, 17, 18, 19, 20, 21, 22] rfl rfl (by decide +kernel) (by decide +kernel) hk hF hP1 hD1
  exact ⟨va_P.part (X := [c8, c10, c11, c12, c13, c14, c15, c16, c17, c18, c19, c20, c21, c22, d0, d1, d2, d3, d4, d5, d6, d7, d8]) (cx := [d0, d1, d2, d4, d5, d6, d3, d7, c8, d8, c10, c11, c12, c13, c14, c15, c16, c17, c18, c19, c20, c21, c22]) h1 [14, 15, 16, 18, 19, 20, 17, 21, 0, 22, 1, 2, 3, 4, 5, 6, 7, 8, 9, 10, 11, 12, 13] rfl, va_D.part (X := [c8, c10, c11, c12, c13, c14, c15, c16, c17, c18, c19, c20, c21, c22, d0, d1, d2, d3, d4, d5, d6, d7, d8]) (cx := [d0, d1, d2, d4, d5, d6, d3, d7, c8, d8, c10, c11, c12, c13, c14, c15, c16, c17, c18, c19, c20, c21, c22]) h2 [14, 15, 16, 18, 19, 20, 17, 21, 0, 22, 1, 2, 3, 4, 5, 6, 7, 8, 9, 10, 11, 12, 13] (by decide +kernel) rfl⟩
theorem rgP23_ff58871 {D : va_G} {cl : List vw_C} {H : Heap} {c0 c1 c2 c3 c4 c5 c6 c7 c8 c9 c10 c11 c12 c13 c14 c15 c16 c17 c18 c19 c20 c21 c22 : Nat × va_E} {R : va_W} (h : va_P D cl ([c0, c1, c2, c3, c4, c5, c6, c7, c8, c9, c10, c11, c12, c13, c14, c15, c16, c17, c18, c19, c20, c21, c22] ++ R) H) : va_P D cl ([c0, c1, c2, c6, c3, c4, c5, c7, c10, c11, c12, c18, c19]) H := h.sub (ws' := [c0, c1, c2, c6, c3, c4, c5, c7, c10, c11, c12, c18, c19]) [0, 1, 2, 6, 3, 4, 5, 7, 10, 11, 12, 18, 19] rfl
theorem rgK20_70b63f3 {D : va_G} {cl : List vw_C} {U : State} {t0 t1 t2 t3 t4 t5 t6 t7 t8 t9 t10 t11 t12 t13 t14 t15 t16 t17 t18 t19 : ClassId × FieldType} (h : va_K D cl [t0, t1, t2, t3, t4, t5, t6, t7, t8, t9, t10, t11, t12, t13, t14, t15, t16, t17, t18, t19] U) : va_K D cl [t0, t4, t1, t2, t3, t7, t8, t9, t15] U := h.sub (tys' := [t0, t4, t1, t2, t3, t7, t8, t9, t15]) [0, 4, 1, 2, 3, 7, 8, 9, 15] rfl
theorem rgD23_cbe1d4f {A : Nat → Prop} {c0 c1 c2 c3 c4 c5 c6 c7 c8 c9 c10 c11 c12 c13 c14 c15 c16 c17 c18 c19 c20 c21 c22 : Nat × va_E} {R : va_W} (h : va_D A ([c0, c1, c2, c3, c4, c5, c6, c7, c8, c9, c10, c11, c12, c13, c14, c15, c16, c17, c18, c19, c20, c21, c22] ++ R)) : va_D A ([c0, c1, c2, c6, c3, c4, c5, c7, c10, c11, c12, c18, c19]) := h.sub (ws' := [c0, c1, c2, c6, c3, c4, c5, c7, c10, c11, c12, c18, c19]) [0, 1, 2, 6, 3, 4, 5, 7, 10, 11, 12, 18, 19] (by decide +kernel) rfl
theorem rgJ23_d81d8ec {A0 : Nat → Prop} {D : va_G} {cl : List vw_C} {H H1 : Heap} {c0 c1 c2 c3 c4 c5 c6 c7 c8 c9 c10 c11 c12 c13 c14 c15 c16 c17 c18 c19 c20 c21 c22 : Nat × va_E} {d0 d1 d2 d3 d4 d5 d6 d7 d8 d9 d10 d11 d12 : Nat × va_E} {R : va_W} (hP : va_P D cl ([c0, c1, c2, c3, c4, c5, c6, c7, c8, c9, c10, c11, c12, c13, c14, c15, c16, c17, c18, c19, c20, c21, c22] ++ R) H) (hD : va_D A0 ([c0, c1, c2, c3, c4, c5, c6, c7, c8, c9, c10, c11, c12, c13, c14, c15, c16, c17, c18, c19, c20, c21, c22] ++ R)) (hk : ∀ q : Nat, q < H.size → ¬ va_A ([c0, c1, c2, c6, c3, c4, c5, c7, c10, c11, c12, c18, c19]) H.size q → H1[q]? = H[q]?) (hF : ∀ q, va_A ([c0, c1, c2, c6, c3, c4, c5, c7, c10, c11, c12, c18, c19]) H.size q → A0 q) (hP1 : va_P D cl ([d0, d1, d2, d3, d4, d5, d6, d7, d8, d9, d10, d11, d12]) H1) (hD1 : va_D (va_A ([c0, c1, c2, c6, c3, c4, c5, c7, c10, c11, c12, c18, c19]) H.size) ([d0, d1, d2, d3, d4, d5, d6, d7, d8, d9, d10, d11, d12])) : va_P D cl ([d0, d1, d2, d4, d5, d6, d3, d7, c8, c9, d8, d9, d10, c13, c14, c15, c16, c17, d11, d12, c20, c21, c22] ++ R) H1 ∧ va_D A0 ([d0, d1, d2, d4, d5, d6, d3, d7, c8, c9, d8, d9, d10, c13, c14, c15, c16, c17, d11, d12, c20, c21, c22] ++ R) := by
  obtain ⟨h1, h2⟩ := va_joinQ (X := [c0, c1, c2, c3, c4, c5, c6, c7, c8, c9, c10, c11, c12, c13, c14, c15, c16, c17, c18, c19, c20, c21, c22]) (cx := [c0, c1, c2, c6, c3, c4, c5, c7, c10, c11, c12, c18, c19]) (wr := [c8, c9, c13, c14, c15, c16, c17, c20, c21, c22]) (w1 := [d0, d1, d2, d3, d4, d5, d6, d7, d8, d9, d10, d11, d12]) hP hD [0, 1, 2, 6, 3, 4, 5, 7, 10, 11, 12, 18, 19] [8, 9, 13, 14, 15, 16, 17, 20, 21, 22] rfl rfl (by decide +kernel) (by decide +kernel) hk hF hP1 hD1
  exact ⟨va_P.part (X := [c8, c9, c13, c14, c15, c16, c17, c20, c21, c22, d0, d1, d2, d3, d4, d5, d6, d7, d8, d9, d10, d11, d12]) (cx := [d0, d1, d2, d4, d5, d6, d3, d7, c8, c9, d8, d9, d10, c13, c14, c15, c16, c17, d11, d12, c20, c21, c22]) h1 [10, 11, 12, 14, 15, 16, 13, 17, 0, 1, 18, 19, 20, 2, 3, 4, 5, 6, 21, 22, 7, 8, 9] rfl, va_D.part (X := [c8, c9, c13, c14, c15, c16, c17, c20, c21, c22, d0, d1, d2, d3, d4, d5, d6, d7, d8, d9, d10, d11, d12]) (cx := [d0, d1, d2, d4, d5, d6, d3, d7, c8, c9, d8, d9, d10, c13, c14, c15, c16, c17, d11, d12, c20, c21, c22]) h2 [10, 11, 12, 14, 15, 16, 13, 17, 0, 1, 18, 19, 20, 2, 3, 4, 5, 6, 21, 22, 7, 8, 9] (by decide +kernel) rfl⟩
theorem rgP23_ba2c3e5 {D : va_G} {cl : List vw_C} {H : Heap} {c0 c1 c2 c3 c4 c5 c6 c7 c8 c9 c10 c11 c12 c13 c14 c15 c16 c17 c18 c19 c20 c21 c22 : Nat × va_E} {R : va_W} (h : va_P D cl ([c0, c1, c2, c3, c4, c5, c6, c7, c8, c9, c10, c11, c12, c13, c14, c15, c16, c17, c18, c19, c20, c21, c22] ++ R) H) : va_P D cl ([c0, c1, c2, c6, c3, c4, c5, c7, c13, c14, c15, c16, c17] ++ R) H := h.part (X := [c0, c1, c2, c3, c4, c5, c6, c7, c8, c9, c10, c11, c12, c13, c14, c15, c16, c17, c18, c19, c20, c21, c22]) (cx := [c0, c1, c2, c6, c3, c4, c5, c7, c13, c14, c15, c16, c17]) [0, 1, 2, 6, 3, 4, 5, 7, 13, 14, 15, 16, 17] rfl
theorem rgK20_4bfb8a7 {D : va_G} {cl : List vw_C} {U : State} {t0 t1 t2 t3 t4 t5 t6 t7 t8 t9 t10 t11 t12 t13 t14 t15 t16 t17 t18 t19 : ClassId × FieldType} (h : va_K D cl [t0, t1, t2, t3, t4, t5, t6, t7, t8, t9, t10, t11, t12, t13, t14, t15, t16, t17, t18, t19] U) : va_K D cl [t0, t4, t1, t2, t3, t10, t11, t12, t13, t14] U := h.sub (tys' := [t0, t4, t1, t2, t3, t10, t11, t12, t13, t14]) [0, 4, 1, 2, 3, 10, 11, 12, 13, 14] rfl
theorem rgD23_acf8747 {A : Nat → Prop} {c0 c1 c2 c3 c4 c5 c6 c7 c8 c9 c10 c11 c12 c13 c14 c15 c16 c17 c18 c19 c20 c21 c22 : Nat × va_E} {R : va_W} (h : va_D A ([c0, c1, c2, c3, c4, c5, c6, c7, c8, c9, c10, c11, c12, c13, c14, c15, c16, c17, c18, c19, c20, c21, c22] ++ R)) : va_D A ([c0, c1, c2, c6, c3, c4, c5, c7, c13, c14, c15, c16, c17] ++ R) := h.part (X := [c0, c1, c2, c3, c4, c5, c6, c7, c8, c9, c10, c11, c12, c13, c14, c15, c16, c17, c18, c19, c20, c21, c22]) (cx := [c0, c1, c2, c6, c3, c4, c5, c7, c13, c14, c15, c16, c17]) [0, 1, 2, 6, 3, 4, 5, 7, 13, 14, 15, 16, 17] (by decide +kernel) rfl
theorem rgJ23_f082ab0 {A0 : Nat → Prop} {D : va_G} {cl : List vw_C} {H H1 : Heap} {c0 c1 c2 c3 c4 c5 c6 c7 c8 c9 c10 c11 c12 c13 c14 c15 c16 c17 c18 c19 c20 c21 c22 : Nat × va_E} {d0 d1 d2 d3 d4 d5 d6 d7 d8 d9 d10 d11 d12 : Nat × va_E} {R R1 : va_W} (hP : va_P D cl ([c0, c1, c2, c3, c4, c5, c6, c7, c8, c9, c10, c11, c12, c13, c14, c15, c16, c17, c18, c19, c20, c21, c22] ++ R) H) (hD : va_D A0 ([c0, c1, c2, c3, c4, c5, c6, c7, c8, c9, c10, c11, c12, c13, c14, c15, c16, c17, c18, c19, c20, c21, c22] ++ R)) (hk : ∀ q : Nat, q < H.size → ¬ va_A ([c0, c1, c2, c6, c3, c4, c5, c7, c13, c14, c15, c16, c17] ++ R) H.size q → H1[q]? = H[q]?) (hF : ∀ q, va_A ([c0, c1, c2, c6, c3, c4, c5, c7, c13, c14, c15, c16, c17] ++ R) H.size q → A0 q) (hP1 : va_P D cl ([d0, d1, d2, d3, d4, d5, d6, d7, d8, d9, d10, d11, d12] ++ R1) H1) (hD1 : va_D (va_A ([c0, c1, c2, c6, c3, c4, c5, c7, c13, c14, c15, c16, c17] ++ R) H.size) ([d0, d1, d2, d3, d4, d5, d6, d7, d8, d9, d10, d11, d12] ++ R1)) : va_P D cl ([d0, d1, d2, d4, d5, d6, d3, d7, c8, c9, c10, c11, c12, d8, d9, d10, d11, d12, c18, c19, c20, c21, c22] ++ R1) H1 ∧ va_D A0 ([d0, d1, d2, d4, d5, d6, d3, d7, c8, c9, c10, c11, c12, d8, d9, d10, d11, d12, c18, c19, c20, c21, c22] ++ R1) := by
  obtain ⟨h1, h2⟩ := va_joinP (X := [c0, c1, c2, c3, c4, c5, c6, c7, c8, c9, c10, c11, c12, c13, c14, c15, c16, c17, c18, c19, c20, c21, c22]) (cx := [c0, c1, c2, c6, c3, c4, c5, c7, c13, c14, c15, c16, c17]) (wr := [c8, c9, c10, c11, c12, c18, c19, c20, c21, c22]) (rx := [d0, d1, d2, d3, d4, d5, d6, d7, d8, d9, d10, d11, d12]) hP hD [0, 1, 2, 6, 3, 4, 5, 7, 13, 14, 15, 16, 17] [8, 9, 10, 11, 12, 18, 19, 20, 21, 22] rfl rfl (by decide +kernel) (by decide +kernel) hk hF hP1 hD1
  exact ⟨va_P.part (X := [c8, c9, c10, c11, c12, c18, c19, c20, c21, c22, d0, d1, d2, d3, d4, d5, d6, d7, d8, d9, d10, d11, d12]) (cx := [d0, d1, d2, d4, d5, d6, d3, d7, c8, c9, c10, c11, c12, d8, d9, d10, d11, d12, c18, c19, c20, c21, c22]) h1 [10, 11, 12, 14, 15, 16, 13, 17, 0, 1, 2, 3, 4, 18, 19, 20, 21, 22, 5, 6, 7, 8, 9] rfl, va_D.part (X := [c8, c9, c10, c11, c12, c18, c19, c20, c21, c22, d0, d1, d2, d3, d4, d5, d6, d7, d8, d9, d10, d11, d12]) (cx := [d0, d1, d2, d4, d5, d6, d3, d7, c8, c9, c10, c11, c12, d8, d9, d10, d11, d12, c18, c19, c20, c21, c22]) h2 [10, 11, 12, 14, 15, 16, 13, 17, 0, 1, 2, 3, 4, 18, 19, 20, 21, 22, 5, 6, 7, 8, 9] (by decide +kernel) rfl⟩
set_option maxHeartbeats 4000000 in
set_option maxRecDepth 100000 in
theorem k_X5_readClose (l : Launch) (dC : Nat → ClassId) (dI : Nat → Nat → Nat) (g : Gv) (sz : Nat) (a0 : Nat) (a1 : Nat) (a0_0 : Nat) (a0_1 : Nat) (a0_2 : Nat) (a0_3 : Nat) (a0_4 : Int32) (a0_5 : Int32) (a0_0_0 : Nat) (a0_0_1 : Nat) (a0_0_2 : Int32) (a0_0_3 : Int32) (a0_0_4 : Int32) (a0_0_5 : Int32) (a0_0_6 : Int64) (a0_0_7 : Int32) (a0_0_0_c : ClassId) (a0_0_0_f : Nat → Int64) (a0_0_1_c : ClassId) (a0_0_1_f : Nat → Int32) (a0_1_c : ClassId) (a0_1_f : Nat → Int64) (a0_2_c : ClassId) (a0_2_f : Nat → Int32) (a0_3_c : ClassId) (a0_3_f : Nat → Int32) (a1_0 : Int32) (a1_1 : Nat) (a1_2 : Int32) (a1_3 : Nat) (a1_4 : Int32) (a1_5 : Nat) (a1_6 : Nat) (a1_7 : Nat) (a1_8 : Int32) (a1_9 : Nat) (a1_10 : Nat) (a1_11 : Nat) (a1_12 : Nat) (a1_13 : Nat) (a1_9_c : ClassId) (a1_9_f : Nat → Int32) (a1_10_c : ClassId) (a1_10_f : Nat → Int32) (a1_11_c : ClassId) (a1_11_f : Nat → Int32) (a1_12_c : ClassId) (a1_12_f : Nat → Option Nat) (a1_13_c : ClassId) (a1_13_f : Nat → Int32) (rows : va_W) (h_a0_4 : 0 ≤ a0_4.toInt ∧ a0_4.toInt ≤ 36) (h_a0_0_2 : 0 ≤ a0_0_2.toInt ∧ a0_0_2.toInt ≤ 1000) (h_a0_0_3 : 0 ≤ a0_0_3.toInt ∧ a0_0_3.toInt ≤ 1000) (h_a0_0_5 : 0 ≤ a0_0_5.toInt ∧ a0_0_5.toInt ≤ 1000) (h_a1_0 : 0 ≤ a1_0.toInt ∧ a1_0.toInt ≤ 8) (h_a1_2 : 0 ≤ a1_2.toInt ∧ a1_2.toInt ≤ 4) (h_a1_4 : 0 ≤ a1_4.toInt ∧ a1_4.toInt ≤ 24) (h_a1_8 : 0 ≤ a1_8.toInt ∧ a1_8.toInt ≤ 12) (h_a1_12_f : GR g.2.2.2.2.1 3 12 a1_12_f rows) (hno : NOk a0_2_f a0_3_f a0_4) (hho : HOk a1_9_f a1_10_f a1_8) : Met l yX5_readClose (.code yX5_readClose cX5_readClose 4 none :: TBL) ({ frames := 5, cells := 0, slots := 0, locals := 109 }) (va_Pc [.ref a0, .ref a1] (fun U => U.heap.size = sz ∧ va_P (dC, dI) vwCl (([(a0, .inr (4, [.ref a0_0, .ref a0_1, .ref a0_2, .ref a0_3, .int a0_4, .int a0_5])), (a0_0, .inr (6, [.ref a0_0_0, .ref a0_0_1, .int a0_0_2, .int a0_0_3, .int a0_0_4, .int a0_0_5, .long a0_0_6, .int a0_0_7])), (a0_0_0, .inl (a0_0_0_c, 12, .inr (.inl a0_0_0_f))), (a0_0_1, .inl (a0_0_1_c, 1000, .inl a0_0_1_f)), (a0_1, .inl (a0_1_c, 36, .inr (.inl a0_1_f))), (a0_2, .inl (a0_2_c, 36, .inl a0_2_f)), (a0_3, .inl (a0_3_c, 36, .inl a0_3_f)), (a1, .inr (0, [.int a1_0, .ref a1_1, .int a1_2, .ref a1_3, .int a1_4, .ref a1_5, .ref a1_6, .ref a1_7, .int a1_8, .ref a1_9, .ref a1_10, .ref a1_11, .ref a1_12, .ref a1_13])), (a1_9, .inl (a1_9_c, 12, .inl a1_9_f)), (a1_10, .inl (a1_10_c, 12, .inl a1_10_f)), (a1_11, .inl (a1_11_c, 12, .inl a1_11_f)), (a1_12, .inl (a1_12_c, 12, .inr (.inr (.inr (.inr a1_12_f))))), (a1_13, .inl (a1_13_c, 12, .inl a1_13_f))] : va_W) ++ rows) U.heap ∧ va_K (dC, dI) vwCl [(a0_0_0_c, .long), (a0_0_1_c, .byte), (a0_1_c, .long), (a0_2_c, .int), (a0_3_c, .int), (a1_9_c, .int), (a1_10_c, .int), (a1_11_c, .boolean), (a1_12_c, .array .int), (a1_13_c, .int)] U ∧ va_D (fun _ => True) (([(a0, .inr (4, [.ref a0_0, .ref a0_1, .ref a0_2, .ref a0_3, .int a0_4, .int a0_5])), (a0_0, .inr (6, [.ref a0_0_0, .ref a0_0_1, .int a0_0_2, .int a0_0_3, .int a0_0_4, .int a0_0_5, .long a0_0_6, .int a0_0_7])), (a0_0_0, .inl (a0_0_0_c, 12, .inr (.inl a0_0_0_f))), (a0_0_1, .inl (a0_0_1_c, 1000, .inl a0_0_1_f)), (a0_1, .inl (a0_1_c, 36, .inr (.inl a0_1_f))), (a0_2, .inl (a0_2_c, 36, .inl a0_2_f)), (a0_3, .inl (a0_3_c, 36, .inl a0_3_f)), (a1, .inr (0, [.int a1_0, .ref a1_1, .int a1_2, .ref a1_3, .int a1_4, .ref a1_5, .ref a1_6, .ref a1_7, .int a1_8, .ref a1_9, .ref a1_10, .ref a1_11, .ref a1_12, .ref a1_13])), (a1_9, .inl (a1_9_c, 12, .inl a1_9_f)), (a1_10, .inl (a1_10_c, 12, .inl a1_10_f)), (a1_11, .inl (a1_11_c, 12, .inl a1_11_f)), (a1_12, .inl (a1_12_c, 12, .inr (.inr (.inr (.inr a1_12_f))))), (a1_13, .inl (a1_13_c, 12, .inl a1_13_f))] : va_W) ++ rows) ∧ Ev g (va_A (([(a0, .inr (4, [.ref a0_0, .ref a0_1, .ref a0_2, .ref a0_3, .int a0_4, .int a0_5])), (a0_0, .inr (6, [.ref a0_0_0, .ref a0_0_1, .int a0_0_2, .int a0_0_3, .int a0_0_4, .int a0_0_5, .long a0_0_6, .int a0_0_7])), (a0_0_0, .inl (a0_0_0_c, 12, .inr (.inl a0_0_0_f))), (a0_0_1, .inl (a0_0_1_c, 1000, .inl a0_0_1_f)), (a0_1, .inl (a0_1_c, 36, .inr (.inl a0_1_f))), (a0_2, .inl (a0_2_c, 36, .inl a0_2_f)), (a0_3, .inl (a0_3_c, 36, .inl a0_3_f)), (a1, .inr (0, [.int a1_0, .ref a1_1, .int a1_2, .ref a1_3, .int a1_4, .ref a1_5, .ref a1_6, .ref a1_7, .int a1_8, .ref a1_9, .ref a1_10, .ref a1_11, .ref a1_12, .ref a1_13])), (a1_9, .inl (a1_9_c, 12, .inl a1_9_f)), (a1_10, .inl (a1_10_c, 12, .inl a1_10_f)), (a1_11, .inl (a1_11_c, 12, .inl a1_11_f)), (a1_12, .inl (a1_12_c, 12, .inr (.inr (.inr (.inr a1_12_f))))), (a1_13, .inl (a1_13_c, 12, .inl a1_13_f))] : va_W) ++ rows) sz) U)) (va_Qv (fun (_ : Unit) => True) (fun (_ : Unit) (t : State) => ∃ (za0_5 : Int32) (za0_0_3 : Int32) (za0_0_4 : Int32) (za0_0_5 : Int32) (za0_0_6 : Int64) (za0_0_7 : Int32) (za1_8 : Int32) (za1_9_f : Nat → Int32) (za1_10_f : Nat → Int32) (za1_11_f : Nat → Int32) (za1_13_f : Nat → Int32) (zrows : va_W), (0 ≤ za0_0_3.toInt ∧ za0_0_3.toInt ≤ 1000) ∧ (0 ≤ za0_0_5.toInt ∧ za0_0_5.toInt ≤ 1000) ∧ (0 ≤ za1_8.toInt ∧ za1_8.toInt ≤ 12) ∧ RS g.2.2.2.2.1 rows zrows ∧ (HOk za1_9_f za1_10_f za1_8) ∧ va_P (dC, dI) vwCl (([(a0, .inr (4, [.ref a0_0, .ref a0_1, .ref a0_2, .ref a0_3, .int a0_4, .int za0_5])), (a0_0, .inr (6, [.ref a0_0_0, .ref a0_0_1, .int a0_0_2, .int za0_0_3, .int za0_0_4, .int za0_0_5, .long za0_0_6, .int za0_0_7])), (a0_0_0, .inl (a0_0_0_c, 12, .inr (.inl a0_0_0_f))), (a0_0_1, .inl (a0_0_1_c, 1000, .inl a0_0_1_f)), (a0_1, .inl (a0_1_c, 36, .inr (.inl a0_1_f))), (a0_2, .inl (a0_2_c, 36, .inl a0_2_f)), (a0_3, .inl (a0_3_c, 36, .inl a0_3_f)), (a1, .inr (0, [.int a1_0, .ref a1_1, .int a1_2, .ref a1_3, .int a1_4, .ref a1_5, .ref a1_6, .ref a1_7, .int za1_8, .ref a1_9, .ref a1_10, .ref a1_11, .ref a1_12, .ref a1_13])), (a1_9, .inl (a1_9_c, 12, .inl za1_9_f)), (a1_10, .inl (a1_10_c, 12, .inl za1_10_f)), (a1_11, .inl (a1_11_c, 12, .inl za1_11_f)), (a1_12, .inl (a1_12_c, 12, .inr (.inr (.inr (.inr a1_12_f))))), (a1_13, .inl (a1_13_c, 12, .inl za1_13_f))] : va_W) ++ zrows) t.heap ∧ va_K (dC, dI) vwCl [] t ∧ va_D (va_A (([(a0, .inr (4, [.ref a0_0, .ref a0_1, .ref a0_2, .ref a0_3, .int a0_4, .int a0_5])), (a0_0, .inr (6, [.ref a0_0_0, .ref a0_0_1, .int a0_0_2, .int a0_0_3, .int a0_0_4, .int a0_0_5, .long a0_0_6, .int a0_0_7])), (a0_0_0, .inl (a0_0_0_c, 12, .inr (.inl a0_0_0_f))), (a0_0_1, .inl (a0_0_1_c, 1000, .inl a0_0_1_f)), (a0_1, .inl (a0_1_c, 36, .inr (.inl a0_1_f))), (a0_2, .inl (a0_2_c, 36, .inl a0_2_f)), (a0_3, .inl (a0_3_c, 36, .inl a0_3_f)), (a1, .inr (0, [.int a1_0, .ref a1_1, .int a1_2, .ref a1_3, .int a1_4, .ref a1_5, .ref a1_6, .ref a1_7, .int a1_8, .ref a1_9, .ref a1_10, .ref a1_11, .ref a1_12, .ref a1_13])), (a1_9, .inl (a1_9_c, 12, .inl a1_9_f)), (a1_10, .inl (a1_10_c, 12, .inl a1_10_f)), (a1_11, .inl (a1_11_c, 12, .inl a1_11_f)), (a1_12, .inl (a1_12_c, 12, .inr (.inr (.inr (.inr a1_12_f))))), (a1_13, .inl (a1_13_c, 12, .inl a1_13_f))] : va_W) ++ rows) sz) (([(a0, .inr (4, [.ref a0_0, .ref a0_1, .ref a0_2, .ref a0_3, .int a0_4, .int za0_5])), (a0_0, .inr (6, [.ref a0_0_0, .ref a0_0_1, .int a0_0_2, .int za0_0_3, .int za0_0_4, .int za0_0_5, .long za0_0_6, .int za0_0_7])), (a0_0_0, .inl (a0_0_0_c, 12, .inr (.inl a0_0_0_f))), (a0_0_1, .inl (a0_0_1_c, 1000, .inl a0_0_1_f)), (a0_1, .inl (a0_1_c, 36, .inr (.inl a0_1_f))), (a0_2, .inl (a0_2_c, 36, .inl a0_2_f)), (a0_3, .inl (a0_3_c, 36, .inl a0_3_f)), (a1, .inr (0, [.int a1_0, .ref a1_1, .int a1_2, .ref a1_3, .int a1_4, .ref a1_5, .ref a1_6, .ref a1_7, .int za1_8, .ref a1_9, .ref a1_10, .ref a1_11, .ref a1_12, .ref a1_13])), (a1_9, .inl (a1_9_c, 12, .inl za1_9_f)), (a1_10, .inl (a1_10_c, 12, .inl za1_10_f)), (a1_11, .inl (a1_11_c, 12, .inl za1_11_f)), (a1_12, .inl (a1_12_c, 12, .inr (.inr (.inr (.inr a1_12_f))))), (a1_13, .inl (a1_13_c, 12, .inl za1_13_f))] : va_W) ++ zrows)) (va_A (([(a0, .inr (4, [.ref a0_0, .ref a0_1, .ref a0_2, .ref a0_3, .int a0_4, .int a0_5])), (a0_0, .inr (6, [.ref a0_0_0, .ref a0_0_1, .int a0_0_2, .int a0_0_3, .int a0_0_4, .int a0_0_5, .long a0_0_6, .int a0_0_7])), (a0_0_0, .inl (a0_0_0_c, 12, .inr (.inl a0_0_0_f))), (a0_0_1, .inl (a0_0_1_c, 1000, .inl a0_0_1_f)), (a0_1, .inl (a0_1_c, 36, .inr (.inl a0_1_f))), (a0_2, .inl (a0_2_c, 36, .inl a0_2_f)), (a0_3, .inl (a0_3_c, 36, .inl a0_3_f)), (a1, .inr (0, [.int a1_0, .ref a1_1, .int a1_2, .ref a1_3, .int a1_4, .ref a1_5, .ref a1_6, .ref a1_7, .int a1_8, .ref a1_9, .ref a1_10, .ref a1_11, .ref a1_12, .ref a1_13])), (a1_9, .inl (a1_9_c, 12, .inl a1_9_f)), (a1_10, .inl (a1_10_c, 12, .inl a1_10_f)), (a1_11, .inl (a1_11_c, 12, .inl a1_11_f)), (a1_12, .inl (a1_12_c, 12, .inr (.inr (.inr (.inr a1_12_f))))), (a1_13, .inl (a1_13_c, 12, .inl a1_13_f))] : va_W) ++ rows) sz)) 0 0 (va_A (([(a0, .inr (4, [.ref a0_0, .ref a0_1, .ref a0_2, .ref a0_3, .int a0_4, .int a0_5])), (a0_0, .inr (6, [.ref a0_0_0, .ref a0_0_1, .int a0_0_2, .int a0_0_3, .int a0_0_4, .int a0_0_5, .long a0_0_6, .int a0_0_7])), (a0_0_0, .inl (a0_0_0_c, 12, .inr (.inl a0_0_0_f))), (a0_0_1, .inl (a0_0_1_c, 1000, .inl a0_0_1_f)), (a0_1, .inl (a0_1_c, 36, .inr (.inl a0_1_f))), (a0_2, .inl (a0_2_c, 36, .inl a0_2_f)), (a0_3, .inl (a0_3_c, 36, .inl a0_3_f)), (a1, .inr (0, [.int a1_0, .ref a1_1, .int a1_2, .ref a1_3, .int a1_4, .ref a1_5, .ref a1_6, .ref a1_7, .int a1_8, .ref a1_9, .ref a1_10, .ref a1_11, .ref a1_12, .ref a1_13])), (a1_9, .inl (a1_9_c, 12, .inl a1_9_f)), (a1_10, .inl (a1_10_c, 12, .inl a1_10_f)), (a1_11, .inl (a1_11_c, 12, .inl a1_11_f)), (a1_12, .inl (a1_12_c, 12, .inr (.inr (.inr (.inr a1_12_f))))), (a1_13, .inl (a1_13_c, 12, .inl a1_13_f))] : va_W) ++ rows) sz) := by
  refine Met.ofW (cc := cX5_readClose) (maxL := 4) (ret := none) (by decide) rfl ?_
  intro p e s m args below meth c s₁ B hml hv
  obtain ⟨rfl, hsz, hP, hK, hD0, hE⟩ := hv
  have hx := B.exec
  have hb := B.bytes
  have hr := B.returns
  have hts0 := atoms_spec (ws := (.code yX5_readClose cX5_readClose 4 none :: TBL)) B.pre
  have hts := fun (w : Cond) (h : w ∈ TBL) => hts0 w (List.mem_cons_of_mem _ h)
  have hown : s.vm.findClass RX5 = some m.cls := findClass_of_methodNamed B.named
  have hlocks := B.notSynchronized
  have hN := hE.1
  subst hsz
  have hD := hD0.self (sz := s.heap.size)
  generalize hAe : va_A (([(a0, .inr (4, [.ref a0_0, .ref a0_1, .ref a0_2, .ref a0_3, .int a0_4, .int a0_5])), (a0_0, .inr (6, [.ref a0_0_0, .ref a0_0_1, .int a0_0_2, .int a0_0_3, .int a0_0_4, .int a0_0_5, .long a0_0_6, .int a0_0_7])), (a0_0_0, .inl (a0_0_0_c, 12, .inr (.inl a0_0_0_f))), (a0_0_1, .inl (a0_0_1_c, 1000, .inl a0_0_1_f)), (a0_1, .inl (a0_1_c, 36, .inr (.inl a0_1_f))), (a0_2, .inl (a0_2_c, 36, .inl a0_2_f)), (a0_3, .inl (a0_3_c, 36, .inl a0_3_f)), (a1, .inr (0, [.int a1_0, .ref a1_1, .int a1_2, .ref a1_3, .int a1_4, .ref a1_5, .ref a1_6, .ref a1_7, .int a1_8, .ref a1_9, .ref a1_10, .ref a1_11, .ref a1_12, .ref a1_13])), (a1_9, .inl (a1_9_c, 12, .inl a1_9_f)), (a1_10, .inl (a1_10_c, 12, .inl a1_10_f)), (a1_11, .inl (a1_11_c, 12, .inl a1_11_f)), (a1_12, .inl (a1_12_c, 12, .inr (.inr (.inr (.inr a1_12_f))))), (a1_13, .inl (a1_13_c, 12, .inl a1_13_f))] : va_W) ++ rows) s.heap.size = A at hD hE ⊢
  have hA : ∀ q : Nat, s.heap.size ≤ q → A q := fun q h => by rw [← hAe]; exact Or.inr h
  have hS : va_S A s.heap s.heap [] := va_S.rf
  replace hP : va_P (dC, dI) vwCl (([(a0, .inr (4, [.ref a0_0, .ref a0_1, .ref a0_2, .ref a0_3, .int a0_4, .int a0_5])), (a0_0, .inr (6, [.ref a0_0_0, .ref a0_0_1, .int a0_0_2, .int a0_0_3, .int a0_0_4, .int a0_0_5, .long a0_0_6, .int a0_0_7])), (a0_0_0, .inl (a0_0_0_c, 12, .inr (.inl a0_0_0_f))), (a0_0_1, .inl (a0_0_1_c, 1000, .inl a0_0_1_f)), (a0_1, .inl (a0_1_c, 36, .inr (.inl a0_1_f))), (a0_2, .inl (a0_2_c, 36, .inl a0_2_f)), (a0_3, .inl (a0_3_c, 36, .inl a0_3_f)), (a1, .inr (0, [.int a1_0, .ref a1_1, .int a1_2, .ref a1_3, .int a1_4, .ref a1_5, .ref a1_6, .ref a1_7, .int a1_8, .ref a1_9, .ref a1_10, .ref a1_11, .ref a1_12, .ref a1_13])), (a1_9, .inl (a1_9_c, 12, .inl a1_9_f)), (a1_10, .inl (a1_10_c, 12, .inl a1_10_f)), (a1_11, .inl (a1_11_c, 12, .inl a1_11_f)), (a1_12, .inl (a1_12_c, 12, .inr (.inr (.inr (.inr a1_12_f))))), (a1_13, .inl (a1_13_c, 12, .inl a1_13_f))] : va_W) ++ rows) s.heap := hP
  have hl := lv_entry ([.ref a0, .ref a1]) (n := 4) (Nat.le_of_ble_eq_true rfl)
  rw [lg_entry_eq]
  generalize (lg_sl ([.ref a0, .ref a1]) ++ List.replicate (4 - (lg_sl ([.ref a0, .ref a1])).length) Slot.unset).toArray = ls at hl ⊢
  have hl : lv_has ls 4 [(0, .ref a0), (1, .ref a1)] := hl
  have hK := cyK hK (hts (.arrayClass .int) qw_54) hE.2.2.2.2.2.2.2.2.2.2.2.2.1
  replace hK : va_K (dC, dI) vwCl [(a0_0_0_c, .long), (a0_0_1_c, .byte), (a0_1_c, .long), (a0_2_c, .int), (a0_3_c, .int), (a1_9_c, .int), (a1_10_c, .int), (a1_11_c, .boolean), (a1_12_c, .array .int), (a1_13_c, .int), (g.2.2.2.2.1, .int)] s := hK
  have b_a0_5 := i32b a0_5
  have b_a0_0_4 := i32b a0_0_4
  have b_a0_0_7 := i32b a0_0_7
  have hRS : RS g.2.2.2.2.1 rows rows := RS.rf
  refine lv_aload_n hx hb dX5_readClose_0 rfl (lv_at hl 1 rfl) ?_
  refine va_getN (D := (dC, dI)) (ci := 0) (v := .int a1_8) (C := RX1) (T := TX1) (N := 14) hx hb hts inlX1 hown hK hP 7 rgL13_3dfef5c rfl 8 (by decide) (va_Nw.use rfl (nf_46 hN)) (fun _ h9 => h9) rfl dX5_readClose_1 ?_
  refine lv_istore_n (lv' := [(2, .int a1_8), (0, .ref a0), (1, .ref a1)]) hx hb dX5_readClose_4 rfl hl (by decide) rfl (fun ls hl => ?_)
  refine lv_iload_n hx hb dX5_readClose_5 rfl (lv_at hl 0 rfl) ?_
  refine lv_bipush (v := 12) hx hb dX5_readClose_6 (by decide) ?_
  refine lv_icmp_lt (tgt := 24) hx hb dX5_readClose_8 (by decide) (fun c8_1 => ?_) (fun c8_1 => ?_)
  · have c8_1 : a1_8.toInt < 12 := (cv_lt rfl (by decide)).mp c8_1
    refine lv_aload_n hx hb dX5_readClose_24 rfl (lv_at hl 1 rfl) ?_
    refine va_get (D := (dC, dI)) (ci := 4) (v := .ref a0_0) (C := RX5) (T := TX5) (N := 6) hx hb hts inlX5 hown hK hP 0 rgL13_4f8ef85 rfl 0 (by decide) (hts (.fieldLink RX5 12 "ClosedUntil$TextReader" "tokens" "LClosedUntil$Tokens;") qw_98) (fun _ h9 => h9) rfl dX5_readClose_25 ?_
    have hPc := (rgP13_0e61253 hP)
    have hKc := (rgK11_8cec9cd hK)
    have hDc := (rgD13_e548b04 hD)
    have hFc := freeW hDc hS hA
    refine va_callv (va_runVN (As := []) (rest := []) ⟨hx, hb, hml, hown, hts⟩ (k_X7_advance l dC dI g s.heap.size (a0_0) (a0_0_0) (a0_0_1) (a0_0_2) (a0_0_3) (a0_0_4) (a0_0_5) (a0_0_6) (a0_0_7) (a0_0_0_c) (a0_0_0_f) (a0_0_1_c) (a0_0_1_f) (by omega) (by omega) (by omega)) ⟨va_cnB 0 hts (gwC qw_93) rfl rfl rfl (nm_13 hN) (hts (.initialized RX7) qw_70) (by decide +kernel) ⟨Nat.le_of_ble_eq_true rfl, Nat.le_of_ble_eq_true rfl⟩, (hts (.instanceMethod yX7_advance) qw_95), (hts (.selects RX7 yX7_advance yX7_advance) qw_96)⟩ ⟨fun a U g9 mk q => ⟨q.1, q.2.1, q.2.2.1, va_K.moved (u := U) (U := U.calling g9 mk a) (Vm.Alike.refl U.vm) q.2.2.2.1, q.2.2.2.2.1, Ev.bl q.2.2.2.2.2⟩, va_recv hK hP (ci := 6) (q0 := 1) rfl rgL13_20d93e8, fun U hU hW => ⟨rfl, by rw [hU], atB hU hPc, va_K.moved hW.alike hKc, hDc.weaken (fun _ _ _ _ => trivial), hE.go hS hFc hU hW⟩⟩ rfl rfl hl.1 rfl (lv_room (Nat.le_of_ble_eq_true rfl)) dX5_readClose_28 ⟨Nat.le_of_ble_eq_true rfl, Nat.le_of_ble_eq_true rfl⟩) hS (fun q _ h => hFc q h) hFc (fun u2 t H1 locs ht hvm h_u2 hB hz1 hk1 hS => ?_)
    obtain ⟨za0_3_4, za0_4_5, za0_5_6, za0_6_7, za0_7_8, hF9, hF10, hP1, hK1, hD1⟩ := hB
    have hK1 := va_K.moved hvm.symm hK1
    have hJ9 := rgJ13_8625cac hP hD hk1 hFc (atH ht hP1) hD1
    clear hP hD hPc hKc hDc hFc hP1 hD1 hk1 hz1
    obtain ⟨hP, hD⟩ := hJ9
    clear hK1
    generalize H1 = H at hP hS ⊢
    refine W.widen (k := 0) (n := 0) (Nat.le_of_ble_eq_true rfl) (Nat.le_of_ble_eq_true rfl) ?_
    refine lv_aload_n hx hb dX5_readClose_31 rfl (lv_at hl 1 rfl) ?_
    refine va_get (D := (dC, dI)) (ci := 4) (v := .ref a0_0) (C := RX5) (T := TX5) (N := 6) hx hb hts inlX5 hown hK hP 0 rgL13_4f8ef85 rfl 0 (by decide) (hts (.fieldLink RX5 12 "ClosedUntil$TextReader" "tokens" "LClosedUntil$Tokens;") qw_98) (fun _ h9 => h9) rfl dX5_readClose_32 ?_
    refine va_getN (D := (dC, dI)) (ci := 6) (v := .int za0_4_5) (C := RX7) (T := TX7) (N := 8) hx hb hts inlX7 hown hK hP 1 rgL13_20d93e8 rfl 4 (by decide) (va_Nw.use rfl (nf_2 hN)) (fun _ h9 => h9) rfl dX5_readClose_35 ?_
    have hPc := (rgP13_86cfdf2 hP)
    have hKc := (rgK11_ef93369 hK)
    refine vp_callSi ((va_runS (As := [.int za0_4_5]) (rest := []) ⟨hx, hb, hml, hown, hts⟩ (k_X5_closureSort l dC dI g (za0_4_5) ) (va_cwS 1 hts (gwS qw_210 qw_211 qw_100 qw_209) rfl rfl rfl (by decide +kernel) ⟨Nat.le_of_ble_eq_true rfl, Nat.le_of_ble_eq_true rfl⟩) ⟨fun a U g9 mk q => ⟨q.1, q.2.1, va_K.moved (u := U) (U := U.calling g9 mk a) (Vm.Alike.refl U.vm) q.2.2.1, Ev.bl q.2.2.2⟩, fun U hU hW => ⟨rfl, atB hU hPc, va_K.moved hW.alike hKc, hE.go hS (fun _ h => h.elim) hU hW⟩⟩ rfl rfl hl.1 rfl (lv_room (Nat.le_of_ble_eq_true rfl)) dX5_readClose_38 ⟨Nat.le_of_ble_eq_true rfl, Nat.le_of_ble_eq_true rfl⟩)).run (fun r11 h_r11 => ?_)
    have h_r11 : ((-1) ≤ r11.toInt ∧ r11.toInt ≤ 3) := h_r11
    refine lv_istore_n (lv' := [(3, .int r11), (2, .int a1_8), (0, .ref a0), (1, .ref a1)]) hx hb dX5_readClose_41 rfl hl (by decide) rfl (fun ls hl => ?_)
    refine lv_iload_n hx hb dX5_readClose_42 rfl (lv_at hl 0 rfl) ?_
    refine lv_iconst (v := (-1)) hx hb dX5_readClose_43 (by decide) ?_
    refine lv_icmp_ne (tgt := 60) hx hb dX5_readClose_44 (by decide) (fun c44_12 => ?_) (fun c44_12 => ?_)
    · have c44_12 : ¬ (r11.toInt = (-1)) := mt (cv_eq rfl (by decide)).mpr c44_12
      refine lv_aload_n hx hb dX5_readClose_60 rfl (lv_at hl 2 rfl) ?_
      refine va_get (D := (dC, dI)) (ci := 4) (v := .ref a0_0) (C := RX5) (T := TX5) (N := 6) hx hb hts inlX5 hown hK hP 0 rgL13_4f8ef85 rfl 0 (by decide) (hts (.fieldLink RX5 12 "ClosedUntil$TextReader" "tokens" "LClosedUntil$Tokens;") qw_98) (fun _ h9 => h9) rfl dX5_readClose_61 ?_
      have hPc := (rgP13_0e61253 hP)
      have hKc := (rgK11_8cec9cd hK)
      have hDc := (rgD13_e548b04 hD)
      have hFc := freeW hDc hS hA
      refine va_callv (va_runVN (As := []) (rest := []) ⟨hx, hb, hml, hown, hts⟩ (k_X7_advance l dC dI g H.size (a0_0) (a0_0_0) (a0_0_1) (a0_0_2) (za0_3_4) (za0_4_5) (za0_5_6) (za0_6_7) (za0_7_8) (a0_0_0_c) (a0_0_0_f) (a0_0_1_c) (a0_0_1_f) (by omega) (by omega) (by omega)) ⟨va_cnB 0 hts (gwC qw_93) rfl rfl rfl (nm_13 hN) (hts (.initialized RX7) qw_70) (by decide +kernel) ⟨Nat.le_of_ble_eq_true rfl, Nat.le_of_ble_eq_true rfl⟩, (hts (.instanceMethod yX7_advance) qw_95), (hts (.selects RX7 yX7_advance yX7_advance) qw_96)⟩ ⟨fun a U g9 mk q => ⟨q.1, q.2.1, q.2.2.1, va_K.moved (u := U) (U := U.calling g9 mk a) (Vm.Alike.refl U.vm) q.2.2.2.1, q.2.2.2.2.1, Ev.bl q.2.2.2.2.2⟩, va_recv hK hP (ci := 6) (q0 := 1) rfl rgL13_20d93e8, fun U hU hW => ⟨rfl, by rw [hU], atB hU hPc, va_K.moved hW.alike hKc, hDc.weaken (fun _ _ _ _ => trivial), hE.go hS hFc hU hW⟩⟩ rfl rfl hl.1 rfl (lv_room (Nat.le_of_ble_eq_true rfl)) dX5_readClose_64 ⟨Nat.le_of_ble_eq_true rfl, Nat.le_of_ble_eq_true rfl⟩) hS (fun q _ h => hFc q h) hFc (fun u13 t H1 locs ht hvm h_u13 hB hz1 hk1 hS => ?_)
      obtain ⟨za0_3_15, za0_4_16, za0_5_17, za0_6_18, za0_7_19, hF20, hF21, hP1, hK1, hD1⟩ := hB
      have hK1 := va_K.moved hvm.symm hK1
      have hJ9 := rgJ13_8625cac hP hD hk1 hFc (atH ht hP1) hD1
      clear hP hD hPc hKc hDc hFc hP1 hD1 hk1 hz1
      obtain ⟨hP, hD⟩ := hJ9
      clear hK1
      generalize H1 = H at hP hS ⊢
      refine W.widen (k := 0) (n := 0) (Nat.le_of_ble_eq_true rfl) (Nat.le_of_ble_eq_true rfl) ?_
      refine lv_aload_n hx hb dX5_readClose_67 rfl (lv_at hl 3 rfl) ?_
      refine va_getN (D := (dC, dI)) (ci := 0) (v := .ref a1_9) (C := RX1) (T := TX1) (N := 14) hx hb hts inlX1 hown hK hP 7 rgL13_3dfef5c rfl 9 (by decide) (va_Nw.use rfl (nf_49 hN)) (fun _ h9 => h9) rfl dX5_readClose_68 ?_
      refine lv_iload_n hx hb dX5_readClose_71 rfl (lv_at hl 1 rfl) ?_
      refine lv_iload_n hx hb dX5_readClose_72 rfl (lv_at hl 0 rfl) ?_
      refine va_iast hx hb hK hP hD hS 8 5 rgL13_0da233f rgT11_777088d (vinI (by omega) (by omega)) dX5_readClose_73 (fun H locs hP9 hD9 hS9 => ?_)
      obtain ⟨y22, e_y22⟩ : ∃ y, (upd a1_9_f a1_8.toNatClampNeg r11) = y := ⟨_, rfl⟩
      clear hP hD hS
      obtain ⟨hP, hD⟩ := rgS13_d68fb3f (e := (a1_9, .inl (a1_9_c, 12, .inl y22))) hP9 hD9 (congrArg (fun z9 => (((a1_9, .inl (a1_9_c, 12, .inl z9)) : Nat × va_E))) e_y22)
      have hS := hS9; clear hP9 hD9 hS9
      refine lv_aload_n hx hb dX5_readClose_74 rfl (lv_at hl 3 rfl) ?_
      refine va_getN (D := (dC, dI)) (ci := 0) (v := .ref a1_10) (C := RX1) (T := TX1) (N := 14) hx hb hts inlX1 hown hK hP 7 rgL13_3dfef5c rfl 10 (by decide) (va_Nw.use rfl (nf_52 hN)) (fun _ h9 => h9) rfl dX5_readClose_75 ?_
      refine lv_iload_n hx hb dX5_readClose_78 rfl (lv_at hl 1 rfl) ?_
      refine lv_aload_n hx hb dX5_readClose_79 rfl (lv_at hl 2 rfl) ?_
      refine va_gets hx hb hE.2.2.2.2.2.2.2.2.2.2.2.2.2.1 hS hown (hts (.fieldLink RX5 148 "ClosedUntil$TextReader" "ASKED_OF" "[I") qw_212) (fun _ h9 => h9) dX5_readClose_80 ?_
      refine lv_iload_n hx hb dX5_readClose_83 rfl (lv_at hl 0 rfl) ?_
      refine va_ti hx hb hE.2.2.2.2.2.2.2.2.2.2.2.2.2.2.1 hS (vinI (by omega) (by omega)) (v := .int (aoL.getD r11.toNatClampNeg 0)) rfl dX5_readClose_84 ?_
      refine lv_topi (fun x23 e_x23 => ?_)
      have hao := aoUse (c := r11) (by omega) (by omega) e_x23
      have hPc := (rgP13_5ece228 hP)
      have hKc := (rgK11_4989d35 hK)
      have hDc := (rgD13_8b6977f hD)
      have hFc := freeW hDc hS hA
      refine va_calli (va_runV (As := [.int x23]) (rest := [.int a1_8, .ref a1_10]) ⟨hx, hb, hml, hown, hts⟩ (k_X5_readName l dC dI g H.size (a0) (x23) (a0_0) (a0_1) (a0_2) (a0_3) (a0_4) (a0_5) (a0_0_0) (a0_0_1) (a0_0_2) (za0_3_15) (za0_4_16) (za0_5_17) (za0_6_18) (za0_7_19) (a0_0_0_c) (a0_0_0_f) (a0_0_1_c) (a0_0_1_f) (a0_1_c) (a0_1_f) (a0_2_c) (a0_2_f) (a0_3_c) (a0_3_f) (by omega) (by omega) (by omega) (by omega) (by assumption)) (cwV 1 hts (gwV qw_121 qw_122 qw_123 qw_100 qw_120) rfl rfl rfl (by decide +kernel) ⟨Nat.le_of_ble_eq_true rfl, Nat.le_of_ble_eq_true rfl⟩) ⟨fun a U g9 mk q => ⟨q.1, q.2.1, q.2.2.1, va_K.moved (u := U) (U := U.calling g9 mk a) (Vm.Alike.refl U.vm) q.2.2.2.1, q.2.2.2.2.1, Ev.bl q.2.2.2.2.2⟩, va_recv hK hP (ci := 4) (q0 := 0) rfl rgL13_4f8ef85, fun U hU hW => ⟨rfl, by rw [hU], atB hU hPc, va_K.moved hW.alike hKc, hDc.weaken (fun _ _ _ _ => trivial), hE.go hS hFc hU hW⟩⟩ rfl rfl hl.1 rfl (lv_room (Nat.le_of_ble_eq_true rfl)) dX5_readClose_85 ⟨Nat.le_of_ble_eq_true rfl, Nat.le_of_ble_eq_true rfl⟩) hS (fun q _ h => hFc q h) hFc (fun r25 u24 t H1 locs ht hvm h_u24 hB hz1 hk1 hS => ?_)
      obtain ⟨za0_5_26, za0_0_3_27, za0_0_4_28, za0_0_5_29, za0_0_6_30, za0_0_7_31, hF32, hF33, hF34, hF35, hP1, hK1, hD1⟩ := hB
      have hK1 := va_K.moved hvm.symm hK1
      have hJ9 := rgJ13_c93341e hP hD hk1 hFc (atH ht hP1) hD1
      clear hP hD hPc hKc hDc hFc hP1 hD1 hk1 hz1
      obtain ⟨hP, hD⟩ := hJ9
      clear hK1
      generalize H1 = H at hP hS ⊢
      refine W.widen (k := 0) (n := 0) (Nat.le_of_ble_eq_true rfl) (Nat.le_of_ble_eq_true rfl) ?_
      have h_r25 := congrArg Int32.toInt h_u24
      have b_r25 := i32b r25
      refine va_iast hx hb hK hP hD hS 9 6 rgL13_387d1cb rgT11_f77e765 (vinI (by omega) (by omega)) dX5_readClose_88 (fun H locs hP9 hD9 hS9 => ?_)
      obtain ⟨y36, e_y36⟩ : ∃ y, (upd a1_10_f a1_8.toNatClampNeg r25) = y := ⟨_, rfl⟩
      clear hP hD hS
      obtain ⟨hP, hD⟩ := rgS13_06e2eda (e := (a1_10, .inl (a1_10_c, 12, .inl y36))) hP9 hD9 (congrArg (fun z9 => (((a1_10, .inl (a1_10_c, 12, .inl z9)) : Nat × va_E))) e_y36)
      have hS := hS9; clear hP9 hD9 hS9
      refine lv_aload_n hx hb dX5_readClose_89 rfl (lv_at hl 3 rfl) ?_
      refine va_getN (D := (dC, dI)) (ci := 0) (v := .ref a1_13) (C := RX1) (T := TX1) (N := 14) hx hb hts inlX1 hown hK hP 7 rgL13_3dfef5c rfl 13 (by decide) (va_Nw.use rfl (nf_60 hN)) (fun _ h9 => h9) rfl dX5_readClose_90 ?_
      refine lv_iload_n hx hb dX5_readClose_93 rfl (lv_at hl 1 rfl) ?_
      refine lv_iconst (v := (-1)) hx hb dX5_readClose_94 (by decide) ?_
      refine va_iast hx hb hK hP hD hS 12 9 rgL13_a477ea7 rgT11_da469ea (vinI (by omega) (by omega)) dX5_readClose_95 (fun H locs hP9 hD9 hS9 => ?_)
      obtain ⟨y37, e_y37⟩ : ∃ y, (upd a1_13_f a1_8.toNatClampNeg ((-1))) = y := ⟨_, rfl⟩
      clear hP hD hS
      obtain ⟨hP, hD⟩ := rgS13_4fd70f0 (e := (a1_13, .inl (a1_13_c, 12, .inl y37))) hP9 hD9 (congrArg (fun z9 => (((a1_13, .inl (a1_13_c, 12, .inl z9)) : Nat × va_E))) e_y37)
      have hS := hS9; clear hP9 hD9 hS9
      refine lv_aload_n hx hb dX5_readClose_96 rfl (lv_at hl 3 rfl) ?_
      refine va_getN (D := (dC, dI)) (ci := 0) (v := .ref a1_11) (C := RX1) (T := TX1) (N := 14) hx hb hts inlX1 hown hK hP 7 rgL13_3dfef5c rfl 11 (by decide) (va_Nw.use rfl (nf_55 hN)) (fun _ h9 => h9) rfl dX5_readClose_97 ?_
      refine lv_iload_n hx hb dX5_readClose_100 rfl (lv_at hl 1 rfl) ?_
      refine lv_iconst (v := 0) hx hb dX5_readClose_101 (by decide) ?_
      refine va_zast hx hb hK hP hD hS 10 7 rgL13_dfa28fb rgT11_33e0f70 (vinI (by omega) (by omega)) dX5_readClose_102 (fun H locs hP9 hD9 hS9 => ?_)
      obtain ⟨y38, e_y38⟩ : ∃ y, (upd a1_11_f a1_8.toNatClampNeg (vp_nar .boolean (0))) = y := ⟨_, rfl⟩
      clear hP hD hS
      obtain ⟨hP, hD⟩ := rgS13_b237c7b (e := (a1_11, .inl (a1_11_c, 12, .inl y38))) hP9 hD9 (congrArg (fun z9 => (((a1_11, .inl (a1_11_c, 12, .inl z9)) : Nat × va_E))) e_y38)
      have hS := hS9; clear hP9 hD9 hS9
      refine lv_iload_n hx hb dX5_readClose_103 rfl (lv_at hl 0 rfl) ?_
      refine lv_iconst (v := 3) hx hb dX5_readClose_104 (by decide) ?_
      refine lv_icmp_ne (tgt := 121) hx hb dX5_readClose_105 (by decide) (fun c105_39 => ?_) (fun c105_39 => ?_)
      · have c105_39 : ¬ (r11.toInt = 3) := mt (cv_eq rfl (by decide)).mpr c105_39
        refine lv_aload_n hx hb dX5_readClose_121 rfl (lv_at hl 2 rfl) ?_
        refine lv_aload_n hx hb dX5_readClose_122 rfl (lv_at hl 3 rfl) ?_
        refine va_getN (D := (dC, dI)) (ci := 0) (v := .ref a1_12) (C := RX1) (T := TX1) (N := 14) hx hb hts inlX1 hown hK hP 7 rgL13_3dfef5c rfl 12 (by decide) (va_Nw.use rfl (nf_58 hN)) (fun _ h9 => h9) rfl dX5_readClose_123 ?_
        refine lv_iload_n hx hb dX5_readClose_126 rfl (lv_at hl 1 rfl) ?_
        refine va_aldqA hx hb hK hP 11 8 rgL13_c925712 rgT11_c2c91f9 (vinI (by omega) (by omega)) dX5_readClose_127 ?_
        obtain ⟨y40, hg42, hy41⟩ := GR.at h_a1_12_f (i := a1_8.toNatClampNeg) (clI (by omega) (by omega))
        refine topv (w := .ref y40) (by rw [hg42]; rfl) ?_
        refine lv_iload_n hx hb dX5_readClose_128 rfl (lv_at hl 0 rfl) ?_
        refine lv_iconst (v := 1) hx hb dX5_readClose_129 (by decide) ?_
        refine lv_icmp_ne (tgt := 137) hx hb dX5_readClose_130 (by decide) (fun c130_43 => ?_) (fun c130_43 => ?_)
        · have c130_43 : ¬ (r11.toInt = 1) := mt (cv_eq rfl (by decide)).mpr c130_43
          refine lv_iconst (v := 1) hx hb dX5_readClose_137 (by decide) ?_
          have qc1 : (1 : Int32).toInt = 1 := by decide
          have hPc := (rgP13_e357524 hP)
          have hKc := (rgK11_8cec9cd hK)
          have hDc := (rgD13_c044789 hD)
          have hFc := freeW hDc hS hA
          refine va_callv (va_runV (As := [.ref y40, .int 1]) (rest := []) ⟨hx, hb, hml, hown, hts⟩ (k_X5_readYears l dC dI g H.size (a0) (y40) (1) (a0_0) (a0_1) (a0_2) (a0_3) (a0_4) (za0_5_26) (a0_0_0) (a0_0_1) (a0_0_2) (za0_0_3_27) (za0_0_4_28) (za0_0_5_29) (za0_0_6_30) (za0_0_7_31) (a0_0_0_c) (a0_0_0_f) (a0_0_1_c) (a0_0_1_f) (rows) (by omega) (by omega) (by omega) (by omega) (RS.rh hRS hy41)) (cwV 2 hts (gwV qw_214 qw_215 qw_216 qw_100 qw_213) rfl rfl rfl (by decide +kernel) ⟨Nat.le_of_ble_eq_true rfl, Nat.le_of_ble_eq_true rfl⟩) ⟨fun a U g9 mk q => ⟨q.1, q.2.1, q.2.2.1, va_K.moved (u := U) (U := U.calling g9 mk a) (Vm.Alike.refl U.vm) q.2.2.2.1, q.2.2.2.2.1, Ev.bl q.2.2.2.2.2⟩, va_recv hK hP (ci := 4) (q0 := 0) rfl rgL13_4f8ef85, fun U hU hW => ⟨rfl, by rw [hU], atB hU hPc, va_K.moved hW.alike hKc, hDc.weaken (fun _ _ _ _ => trivial), hE.go hS hFc hU hW⟩⟩ rfl rfl hl.1 rfl (lv_room (Nat.le_of_ble_eq_true rfl)) dX5_readClose_138 ⟨Nat.le_of_ble_eq_true rfl, Nat.le_of_ble_eq_true rfl⟩) hS (fun q _ h => hFc q h) hFc (fun u44 t H1 locs ht hvm h_u44 hB hz1 hk1 hS => ?_)
          obtain ⟨za0_5_46, za0_0_3_47, za0_0_4_48, za0_0_5_49, za0_0_6_50, za0_0_7_51, zrows_52, hF53, hF54, hF55, hF56, hP1, hK1, hD1⟩ := hB
          have hK1 := va_K.moved hvm.symm hK1
          have hJ9 := rgJ13_63bf4f8 hP hD hk1 hFc (atH ht hP1) hD1
          clear hP hD hPc hKc hDc hFc hP1 hD1 hk1 hz1
          obtain ⟨hP, hD⟩ := hJ9
          clear hK1
          generalize H1 = H at hP hS ⊢
          refine W.widen (k := 0) (n := 0) (Nat.le_of_ble_eq_true rfl) (Nat.le_of_ble_eq_true rfl) ?_
          have hRS := RS.tr hRS hF55
          refine lv_aload_n hx hb dX5_readClose_141 rfl (lv_at hl 3 rfl) ?_
          refine va_getN (D := (dC, dI)) (ci := 0) (v := .ref a1_11) (C := RX1) (T := TX1) (N := 14) hx hb hts inlX1 hown hK hP 7 rgL13_3dfef5c rfl 11 (by decide) (va_Nw.use rfl (nf_55 hN)) (fun _ h9 => h9) rfl dX5_readClose_142 ?_
          refine lv_iload_n hx hb dX5_readClose_145 rfl (lv_at hl 1 rfl) ?_
          refine lv_aload_n hx hb dX5_readClose_146 rfl (lv_at hl 2 rfl) ?_
          refine lv_bipush (v := 11) hx hb dX5_readClose_147 (by decide) ?_
          have qc11 : (11 : Int32).toInt = 11 := by decide
          have hPc := (rgP13_49f9aa6 hP)
          have hKc := (rgK11_8cec9cd hK)
          have hDc := (rgD13_acf4cb5 hD)
          have hFc := freeW hDc hS hA
          refine va_calli (va_runV (As := [.int 11]) (rest := [.int a1_8, .ref a1_11]) ⟨hx, hb, hml, hown, hts⟩ (k_X5_passes l dC dI g H.size (a0) (11) (a0_0) (a0_1) (a0_2) (a0_3) (a0_4) (za0_5_46) (a0_0_0) (a0_0_1) (a0_0_2) (za0_0_3_47) (za0_0_4_48) (za0_0_5_49) (za0_0_6_50) (za0_0_7_51) (a0_0_0_c) (a0_0_0_f) (a0_0_1_c) (a0_0_1_f) (by omega) (by omega) (by omega) (by omega)) (cwV 1 hts (gwV qw_101 qw_102 qw_103 qw_100 qw_99) rfl rfl rfl (by decide +kernel) ⟨Nat.le_of_ble_eq_true rfl, Nat.le_of_ble_eq_true rfl⟩) ⟨fun a U g9 mk q => ⟨q.1, q.2.1, q.2.2.1, va_K.moved (u := U) (U := U.calling g9 mk a) (Vm.Alike.refl U.vm) q.2.2.2.1, q.2.2.2.2.1, Ev.bl q.2.2.2.2.2⟩, va_recv hK hP (ci := 4) (q0 := 0) rfl rgL13_4f8ef85, fun U hU hW => ⟨rfl, by rw [hU], atB hU hPc, va_K.moved hW.alike hKc, hDc.weaken (fun _ _ _ _ => trivial), hE.go hS hFc hU hW⟩⟩ rfl rfl hl.1 rfl (lv_room (Nat.le_of_ble_eq_true rfl)) dX5_readClose_149 ⟨Nat.le_of_ble_eq_true rfl, Nat.le_of_ble_eq_true rfl⟩) hS (fun q _ h => hFc q h) hFc (fun r58 u57 t H1 locs ht hvm h_u57 hB hz1 hk1 hS => ?_)
          obtain ⟨za0_0_3_59, za0_0_4_60, za0_0_5_61, za0_0_6_62, za0_0_7_63, hF64, hF65, hF66, hP1, hK1, hD1⟩ := hB
          have hK1 := va_K.moved hvm.symm hK1
          have hJ9 := rgJ13_a63108a hP hD hk1 hFc (atH ht hP1) hD1
          clear hP hD hPc hKc hDc hFc hP1 hD1 hk1 hz1
          obtain ⟨hP, hD⟩ := hJ9
          clear hK1
          generalize H1 = H at hP hS ⊢
          refine W.widen (k := 0) (n := 0) (Nat.le_of_ble_eq_true rfl) (Nat.le_of_ble_eq_true rfl) ?_
          have h_r58 := congrArg Int32.toInt h_u57
          have hz_r58 : r58 = 0 ∨ r58 = 1 := h_u57 ▸ hF66
          have b_r58 := z01 hz_r58
          refine va_zast hx hb hK hP hD hS 10 7 rgL13_dfa28fb rgT11_33e0f70 (vinI (by omega) (by omega)) dX5_readClose_152 (fun H locs hP9 hD9 hS9 => ?_)
          obtain ⟨y67, e_y67⟩ : ∃ y, (upd y38 a1_8.toNatClampNeg (vp_nar .boolean r58)) = y := ⟨_, rfl⟩
          clear hP hD hS
          obtain ⟨hP, hD⟩ := rgS13_b237c7b (e := (a1_11, .inl (a1_11_c, 12, .inl y67))) hP9 hD9 (congrArg (fun z9 => (((a1_11, .inl (a1_11_c, 12, .inl z9)) : Nat × va_E))) e_y67)
          have hS := hS9; clear hP9 hD9 hS9
          refine lv_aload_n hx hb dX5_readClose_153 rfl (lv_at hl 2 rfl) ?_
          refine lv_bipush (v := 14) hx hb dX5_readClose_154 (by decide) ?_
          have qc14 : (14 : Int32).toInt = 14 := by decide
          have hPc := (rgP13_49f9aa6 hP)
          have hKc := (rgK11_8cec9cd hK)
          have hDc := (rgD13_acf4cb5 hD)
          have hFc := freeW hDc hS hA
          refine va_callv (va_runV (As := [.int 14]) (rest := []) ⟨hx, hb, hml, hown, hts⟩ (k_X5_pass l dC dI g H.size (a0) (14) (a0_0) (a0_1) (a0_2) (a0_3) (a0_4) (za0_5_46) (a0_0_0) (a0_0_1) (a0_0_2) (za0_0_3_59) (za0_0_4_60) (za0_0_5_61) (za0_0_6_62) (za0_0_7_63) (a0_0_0_c) (a0_0_0_f) (a0_0_1_c) (a0_0_1_f) (by omega) (by omega) (by omega) (by omega)) (cwV 1 hts (gwV qw_194 qw_195 qw_196 qw_100 qw_193) rfl rfl rfl (by decide +kernel) ⟨Nat.le_of_ble_eq_true rfl, Nat.le_of_ble_eq_true rfl⟩) ⟨fun a U g9 mk q => ⟨q.1, q.2.1, q.2.2.1, va_K.moved (u := U) (U := U.calling g9 mk a) (Vm.Alike.refl U.vm) q.2.2.2.1, q.2.2.2.2.1, Ev.bl q.2.2.2.2.2⟩, va_recv hK hP (ci := 4) (q0 := 0) rfl rgL13_4f8ef85, fun U hU hW => ⟨rfl, by rw [hU], atB hU hPc, va_K.moved hW.alike hKc, hDc.weaken (fun _ _ _ _ => trivial), hE.go hS hFc hU hW⟩⟩ rfl rfl hl.1 rfl (lv_room (Nat.le_of_ble_eq_true rfl)) dX5_readClose_156 ⟨Nat.le_of_ble_eq_true rfl, Nat.le_of_ble_eq_true rfl⟩) hS (fun q _ h => hFc q h) hFc (fun u68 t H1 locs ht hvm h_u68 hB hz1 hk1 hS => ?_)
          obtain ⟨za0_5_70, za0_0_3_71, za0_0_4_72, za0_0_5_73, za0_0_6_74, za0_0_7_75, hF76, hF77, hF78, hP1, hK1, hD1⟩ := hB
          have hK1 := va_K.moved hvm.symm hK1
          have hJ9 := rgJ13_a63108a hP hD hk1 hFc (atH ht hP1) hD1
          clear hP hD hPc hKc hDc hFc hP1 hD1 hk1 hz1
          obtain ⟨hP, hD⟩ := hJ9
          clear hK1
          generalize H1 = H at hP hS ⊢
          refine W.widen (k := 0) (n := 0) (Nat.le_of_ble_eq_true rfl) (Nat.le_of_ble_eq_true rfl) ?_
          refine lv_aload_n hx hb dX5_readClose_159 rfl (lv_at hl 2 rfl) ?_
          refine va_get (D := (dC, dI)) (ci := 4) (v := .int za0_5_70) (C := RX5) (T := TX5) (N := 6) hx hb hts inlX5 hown hK hP 0 rgL13_4f8ef85 rfl 5 (by decide) (hts (.fieldLink RX5 41 "ClosedUntil$TextReader" "fault" "I") qw_97) (fun _ h9 => h9) rfl dX5_readClose_160 ?_
          refine lv_iconst (v := (-1)) hx hb dX5_readClose_163 (by decide) ?_
          refine lv_icmp_ne (tgt := 177) hx hb dX5_readClose_164 (by decide) (fun c164_79 => ?_) (fun c164_79 => ?_)
          · have c164_79 : ¬ (za0_5_70.toInt = (-1)) := mt (cv_eq rfl (by decide)).mpr c164_79
            refine W.widen (k := 0) (n := 0) (Nat.le_of_ble_eq_true rfl) (Nat.le_of_ble_eq_true rfl) ?_
            have hP9 := hP
            have hD9 := hD
            have hK9 := (rgK11_ef93369 hK)
            have hf9_0 : (0 ≤ za0_0_3_71.toInt ∧ za0_0_3_71.toInt ≤ 1000) := by omega
            have hf9_1 : (0 ≤ za0_0_5_73.toInt ∧ za0_0_5_73.toInt ≤ 1000) := by omega
            have hf9_2 : (0 ≤ a1_8.toInt ∧ a1_8.toInt ≤ 12) := by omega
            have hf9_3 : RS g.2.2.2.2.1 rows zrows_52 := hRS
            have hf9_4 : (HOk y22 y36 a1_8) := HOk.keep hho e_y22 e_y36 rfl
            exact W.vret hx hb hr (fun t ht hW => ⟨⟨(), rfl, trivial, za0_5_70, za0_0_3_71, za0_0_4_72, za0_0_5_73, za0_0_6_74, za0_0_7_75, a1_8, y22, y36, y67, y37, zrows_52, hf9_0, hf9_1, hf9_2, hf9_3, hf9_4, atB ht hP9, va_K.moved hW.alike hK9, hD9⟩, hS.F ht⟩) hS.2.2 dX5_readClose_177
          · have c164_79 : za0_5_70.toInt = (-1) := (cv_eq rfl (by decide)).mp c164_79
            refine lv_aload_n hx hb dX5_readClose_167 rfl (lv_at hl 3 rfl) ?_
            refine lv_dup hx hb dX5_readClose_168 rfl ?_
            refine va_getN (D := (dC, dI)) (ci := 0) (v := .int a1_8) (C := RX1) (T := TX1) (N := 14) hx hb hts inlX1 hown hK hP 7 rgL13_3dfef5c rfl 8 (by decide) (va_Nw.use rfl (nf_46 hN)) (fun _ h9 => h9) rfl dX5_readClose_169 ?_
            refine lv_iconst (v := 1) hx hb dX5_readClose_172 (by decide) ?_
            refine lv_iadd hx hb dX5_readClose_173 ?_
            refine lv_topi (fun x80 e_x80 => ?_)
            try have e_x80 := ti_add e_x80 rfl (show (1 : Int32).toInt = 1 by decide) (by omega)
            refine va_putN (D := (dC, dI)) (ci := 0) (v := .int x80) (ty := .int) (C := RX1) (T := TX1) (N := 14) hx hb hts inlX1 tyX1 tyX1_ok nmX1 hown hK hP hD hS 7 rgL13_3dfef5c rfl 8 (by decide) (va_Nw.use rfl (nf_46 hN)) (fun _ h9 => h9) rfl (by decide +kernel) rfl rfl (Nat.le_of_ble_eq_true rfl) dX5_readClose_174 (fun H locs hP9 hD9 hS9 => ?_)
            clear hP hD hS
            obtain ⟨hP, hD⟩ := rgS13_3f9ca5a (e := (a1, .inr (0, [.int a1_0, .ref a1_1, .int a1_2, .ref a1_3, .int a1_4, .ref a1_5, .ref a1_6, .ref a1_7, .int x80, .ref a1_9, .ref a1_10, .ref a1_11, .ref a1_12, .ref a1_13]))) hP9 hD9 rfl
            have hS := hS9; clear hP9 hD9 hS9
            refine W.widen (k := 0) (n := 0) (Nat.le_of_ble_eq_true rfl) (Nat.le_of_ble_eq_true rfl) ?_
            have hP9 := hP
            have hD9 := hD
            have hK9 := (rgK11_ef93369 hK)
            have hf9_0 : (0 ≤ za0_0_3_71.toInt ∧ za0_0_3_71.toInt ≤ 1000) := by omega
            have hf9_1 : (0 ≤ za0_0_5_73.toInt ∧ za0_0_5_73.toInt ≤ 1000) := by omega
            have hf9_2 : (0 ≤ x80.toInt ∧ x80.toInt ≤ 12) := by omega
            have hf9_3 : RS g.2.2.2.2.1 rows zrows_52 := hRS
            have hf9_4 : (HOk y22 y36 x80) := HOk.grow hho e_y22 e_y36 rfl (by omega) (by omega) (by omega)
            exact W.vret hx hb hr (fun t ht hW => ⟨⟨(), rfl, trivial, za0_5_70, za0_0_3_71, za0_0_4_72, za0_0_5_73, za0_0_6_74, za0_0_7_75, x80, y22, y36, y67, y37, zrows_52, hf9_0, hf9_1, hf9_2, hf9_3, hf9_4, atB ht hP9, va_K.moved hW.alike hK9, hD9⟩, hS.F ht⟩) hS.2.2 dX5_readClose_177
        · have c130_43 : r11.toInt = 1 := (cv_eq rfl (by decide)).mp c130_43
          refine lv_iconst (v := 3) hx hb dX5_readClose_133 (by decide) ?_
          refine lv_goto (tgt := 138) hx hb dX5_readClose_134 (by decide) ?_
          have qc3 : (3 : Int32).toInt = 3 := by decide
          have hPc := (rgP13_e357524 hP)
          have hKc := (rgK11_8cec9cd hK)
          have hDc := (rgD13_c044789 hD)
          have hFc := freeW hDc hS hA
          refine va_callv (va_runV (As := [.ref y40, .int 3]) (rest := []) ⟨hx, hb, hml, hown, hts⟩ (k_X5_readYears l dC dI g H.size (a0) (y40) (3) (a0_0) (a0_1) (a0_2) (a0_3) (a0_4) (za0_5_26) (a0_0_0) (a0_0_1) (a0_0_2) (za0_0_3_27) (za0_0_4_28) (za0_0_5_29) (za0_0_6_30) (za0_0_7_31) (a0_0_0_c) (a0_0_0_f) (a0_0_1_c) (a0_0_1_f) (rows) (by omega) (by omega) (by omega) (by omega) (RS.rh hRS hy41)) (cwV 2 hts (gwV qw_214 qw_215 qw_216 qw_100 qw_213) rfl rfl rfl (by decide +kernel) ⟨Nat.le_of_ble_eq_true rfl, Nat.le_of_ble_eq_true rfl⟩) ⟨fun a U g9 mk q => ⟨q.1, q.2.1, q.2.2.1, va_K.moved (u := U) (U := U.calling g9 mk a) (Vm.Alike.refl U.vm) q.2.2.2.1, q.2.2.2.2.1, Ev.bl q.2.2.2.2.2⟩, va_recv hK hP (ci := 4) (q0 := 0) rfl rgL13_4f8ef85, fun U hU hW => ⟨rfl, by rw [hU], atB hU hPc, va_K.moved hW.alike hKc, hDc.weaken (fun _ _ _ _ => trivial), hE.go hS hFc hU hW⟩⟩ rfl rfl hl.1 rfl (lv_room (Nat.le_of_ble_eq_true rfl)) dX5_readClose_138 ⟨Nat.le_of_ble_eq_true rfl, Nat.le_of_ble_eq_true rfl⟩) hS (fun q _ h => hFc q h) hFc (fun u81 t H1 locs ht hvm h_u81 hB hz1 hk1 hS => ?_)
          obtain ⟨za0_5_83, za0_0_3_84, za0_0_4_85, za0_0_5_86, za0_0_6_87, za0_0_7_88, zrows_89, hF90, hF91, hF92, hF93, hP1, hK1, hD1⟩ := hB
          have hK1 := va_K.moved hvm.symm hK1
          have hJ9 := rgJ13_63bf4f8 hP hD hk1 hFc (atH ht hP1) hD1
          clear hP hD hPc hKc hDc hFc hP1 hD1 hk1 hz1
          obtain ⟨hP, hD⟩ := hJ9
          clear hK1
          generalize H1 = H at hP hS ⊢
          refine W.widen (k := 0) (n := 0) (Nat.le_of_ble_eq_true rfl) (Nat.le_of_ble_eq_true rfl) ?_
          have hRS := RS.tr hRS hF92
          refine lv_aload_n hx hb dX5_readClose_141 rfl (lv_at hl 3 rfl) ?_
          refine va_getN (D := (dC, dI)) (ci := 0) (v := .ref a1_11) (C := RX1) (T := TX1) (N := 14) hx hb hts inlX1 hown hK hP 7 rgL13_3dfef5c rfl 11 (by decide) (va_Nw.use rfl (nf_55 hN)) (fun _ h9 => h9) rfl dX5_readClose_142 ?_
          refine lv_iload_n hx hb dX5_readClose_145 rfl (lv_at hl 1 rfl) ?_
          refine lv_aload_n hx hb dX5_readClose_146 rfl (lv_at hl 2 rfl) ?_
          refine lv_bipush (v := 11) hx hb dX5_readClose_147 (by decide) ?_
          have qc11 : (11 : Int32).toInt = 11 := by decide
          have hPc := (rgP13_49f9aa6 hP)
          have hKc := (rgK11_8cec9cd hK)
          have hDc := (rgD13_acf4cb5 hD)
          have hFc := freeW hDc hS hA
          refine va_calli (va_runV (As := [.int 11]) (rest := [.int a1_8, .ref a1_11]) ⟨hx, hb, hml, hown, hts⟩ (k_X5_passes l dC dI g H.size (a0) (11) (a0_0) (a0_1) (a0_2) (a0_3) (a0_4) (za0_5_83) (a0_0_0) (a0_0_1) (a0_0_2) (za0_0_3_84) (za0_0_4_85) (za0_0_5_86) (za0_0_6_87) (za0_0_7_88) (a0_0_0_c) (a0_0_0_f) (a0_0_1_c) (a0_0_1_f) (by omega) (by omega) (by omega) (by omega)) (cwV 1 hts (gwV qw_101 qw_102 qw_103 qw_100 qw_99) rfl rfl rfl (by decide +kernel) ⟨Nat.le_of_ble_eq_true rfl, Nat.le_of_ble_eq_true rfl⟩) ⟨fun a U g9 mk q => ⟨q.1, q.2.1, q.2.2.1, va_K.moved (u := U) (U := U.calling g9 mk a) (Vm.Alike.refl U.vm) q.2.2.2.1, q.2.2.2.2.1, Ev.bl q.2.2.2.2.2⟩, va_recv hK hP (ci := 4) (q0 := 0) rfl rgL13_4f8ef85, fun U hU hW => ⟨rfl, by rw [hU], atB hU hPc, va_K.moved hW.alike hKc, hDc.weaken (fun _ _ _ _ => trivial), hE.go hS hFc hU hW⟩⟩ rfl rfl hl.1 rfl (lv_room (Nat.le_of_ble_eq_true rfl)) dX5_readClose_149 ⟨Nat.le_of_ble_eq_true rfl, Nat.le_of_ble_eq_true rfl⟩) hS (fun q _ h => hFc q h) hFc (fun r95 u94 t H1 locs ht hvm h_u94 hB hz1 hk1 hS => ?_)
          obtain ⟨za0_0_3_96, za0_0_4_97, za0_0_5_98, za0_0_6_99, za0_0_7_100, hF101, hF102, hF103, hP1, hK1, hD1⟩ := hB
          have hK1 := va_K.moved hvm.symm hK1
          have hJ9 := rgJ13_a63108a hP hD hk1 hFc (atH ht hP1) hD1
          clear hP hD hPc hKc hDc hFc hP1 hD1 hk1 hz1
          obtain ⟨hP, hD⟩ := hJ9
          clear hK1
          generalize H1 = H at hP hS ⊢
          refine W.widen (k := 0) (n := 0) (Nat.le_of_ble_eq_true rfl) (Nat.le_of_ble_eq_true rfl) ?_
          have h_r95 := congrArg Int32.toInt h_u94
          have hz_r95 : r95 = 0 ∨ r95 = 1 := h_u94 ▸ hF103
          have b_r95 := z01 hz_r95
          refine va_zast hx hb hK hP hD hS 10 7 rgL13_dfa28fb rgT11_33e0f70 (vinI (by omega) (by omega)) dX5_readClose_152 (fun H locs hP9 hD9 hS9 => ?_)
          obtain ⟨y104, e_y104⟩ : ∃ y, (upd y38 a1_8.toNatClampNeg (vp_nar .boolean r95)) = y := ⟨_, rfl⟩
          clear hP hD hS
          obtain ⟨hP, hD⟩ := rgS13_b237c7b (e := (a1_11, .inl (a1_11_c, 12, .inl y104))) hP9 hD9 (congrArg (fun z9 => (((a1_11, .inl (a1_11_c, 12, .inl z9)) : Nat × va_E))) e_y104)
          have hS := hS9; clear hP9 hD9 hS9
          refine lv_aload_n hx hb dX5_readClose_153 rfl (lv_at hl 2 rfl) ?_
          refine lv_bipush (v := 14) hx hb dX5_readClose_154 (by decide) ?_
          have qc14 : (14 : Int32).toInt = 14 := by decide
          have hPc := (rgP13_49f9aa6 hP)
          have hKc := (rgK11_8cec9cd hK)
          have hDc := (rgD13_acf4cb5 hD)
          have hFc := freeW hDc hS hA
          refine va_callv (va_runV (As := [.int 14]) (rest := []) ⟨hx, hb, hml, hown, hts⟩ (k_X5_pass l dC dI g H.size (a0) (14) (a0_0) (a0_1) (a0_2) (a0_3) (a0_4) (za0_5_83) (a0_0_0) (a0_0_1) (a0_0_2) (za0_0_3_96) (za0_0_4_97) (za0_0_5_98) (za0_0_6_99) (za0_0_7_100) (a0_0_0_c) (a0_0_0_f) (a0_0_1_c) (a0_0_1_f) (by omega) (by omega) (by omega) (by omega)) (cwV 1 hts (gwV qw_194 qw_195 qw_196 qw_100 qw_193) rfl rfl rfl (by decide +kernel) ⟨Nat.le_of_ble_eq_true rfl, Nat.le_of_ble_eq_true rfl⟩) ⟨fun a U g9 mk q => ⟨q.1, q.2.1, q.2.2.1, va_K.moved (u := U) (U := U.calling g9 mk a) (Vm.Alike.refl U.vm) q.2.2.2.1, q.2.2.2.2.1, Ev.bl q.2.2.2.2.2⟩, va_recv hK hP (ci := 4) (q0 := 0) rfl rgL13_4f8ef85, fun U hU hW => ⟨rfl, by rw [hU], atB hU hPc, va_K.moved hW.alike hKc, hDc.weaken (fun _ _ _ _ => trivial), hE.go hS hFc hU hW⟩⟩ rfl rfl hl.1 rfl (lv_room (Nat.le_of_ble_eq_true rfl)) dX5_readClose_156 ⟨Nat.le_of_ble_eq_true rfl, Nat.le_of_ble_eq_true rfl⟩) hS (fun q _ h => hFc q h) hFc (fun u105 t H1 locs ht hvm h_u105 hB hz1 hk1 hS => ?_)
          obtain ⟨za0_5_107, za0_0_3_108, za0_0_4_109, za0_0_5_110, za0_0_6_111, za0_0_7_112, hF113, hF114, hF115, hP1, hK1, hD1⟩ := hB
          have hK1 := va_K.moved hvm.symm hK1
          have hJ9 := rgJ13_a63108a hP hD hk1 hFc (atH ht hP1) hD1
          clear hP hD hPc hKc hDc hFc hP1 hD1 hk1 hz1
          obtain ⟨hP, hD⟩ := hJ9
          clear hK1
          generalize H1 = H at hP hS ⊢
          refine W.widen (k := 0) (n := 0) (Nat.le_of_ble_eq_true rfl) (Nat.le_of_ble_eq_true rfl) ?_
          refine lv_aload_n hx hb dX5_readClose_159 rfl (lv_at hl 2 rfl) ?_
          refine va_get (D := (dC, dI)) (ci := 4) (v := .int za0_5_107) (C := RX5) (T := TX5) (N := 6) hx hb hts inlX5 hown hK hP 0 rgL13_4f8ef85 rfl 5 (by decide) (hts (.fieldLink RX5 41 "ClosedUntil$TextReader" "fault" "I") qw_97) (fun _ h9 => h9) rfl dX5_readClose_160 ?_
          refine lv_iconst (v := (-1)) hx hb dX5_readClose_163 (by decide) ?_
          refine lv_icmp_ne (tgt := 177) hx hb dX5_readClose_164 (by decide) (fun c164_116 => ?_) (fun c164_116 => ?_)
          · have c164_116 : ¬ (za0_5_107.toInt = (-1)) := mt (cv_eq rfl (by decide)).mpr c164_116
            refine W.widen (k := 0) (n := 0) (Nat.le_of_ble_eq_true rfl) (Nat.le_of_ble_eq_true rfl) ?_
            have hP9 := hP
            have hD9 := hD
            have hK9 := (rgK11_ef93369 hK)
            have hf9_0 : (0 ≤ za0_0_3_108.toInt ∧ za0_0_3_108.toInt ≤ 1000) := by omega
            have hf9_1 : (0 ≤ za0_0_5_110.toInt ∧ za0_0_5_110.toInt ≤ 1000) := by omega
            have hf9_2 : (0 ≤ a1_8.toInt ∧ a1_8.toInt ≤ 12) := by omega
            have hf9_3 : RS g.2.2.2.2.1 rows zrows_89 := hRS
            have hf9_4 : (HOk y22 y36 a1_8) := HOk.keep hho e_y22 e_y36 rfl
            exact W.vret hx hb hr (fun t ht hW => ⟨⟨(), rfl, trivial, za0_5_107, za0_0_3_108, za0_0_4_109, za0_0_5_110, za0_0_6_111, za0_0_7_112, a1_8, y22, y36, y104, y37, zrows_89, hf9_0, hf9_1, hf9_2, hf9_3, hf9_4, atB ht hP9, va_K.moved hW.alike hK9, hD9⟩, hS.F ht⟩) hS.2.2 dX5_readClose_177
          · have c164_116 : za0_5_107.toInt = (-1) := (cv_eq rfl (by decide)).mp c164_116
            refine lv_aload_n hx hb dX5_readClose_167 rfl (lv_at hl 3 rfl) ?_
            refine lv_dup hx hb dX5_readClose_168 rfl ?_
            refine va_getN (D := (dC, dI)) (ci := 0) (v := .int a1_8) (C := RX1) (T := TX1) (N := 14) hx hb hts inlX1 hown hK hP 7 rgL13_3dfef5c rfl 8 (by decide) (va_Nw.use rfl (nf_46 hN)) (fun _ h9 => h9) rfl dX5_readClose_169 ?_
            refine lv_iconst (v := 1) hx hb dX5_readClose_172 (by decide) ?_
            refine lv_iadd hx hb dX5_readClose_173 ?_
            refine lv_topi (fun x117 e_x117 => ?_)
            try have e_x117 := ti_add e_x117 rfl (show (1 : Int32).toInt = 1 by decide) (by omega)
            refine va_putN (D := (dC, dI)) (ci := 0) (v := .int x117) (ty := .int) (C := RX1) (T := TX1) (N := 14) hx hb hts inlX1 tyX1 tyX1_ok nmX1 hown hK hP hD hS 7 rgL13_3dfef5c rfl 8 (by decide) (va_Nw.use rfl (nf_46 hN)) (fun _ h9 => h9) rfl (by decide +kernel) rfl rfl (Nat.le_of_ble_eq_true rfl) dX5_readClose_174 (fun H locs hP9 hD9 hS9 => ?_)
            clear hP hD hS
            obtain ⟨hP, hD⟩ := rgS13_3f9ca5a (e := (a1, .inr (0, [.int a1_0, .ref a1_1, .int a1_2, .ref a1_3, .int a1_4, .ref a1_5, .ref a1_6, .ref a1_7, .int x117, .ref a1_9, .ref a1_10, .ref a1_11, .ref a1_12, .ref a1_13]))) hP9 hD9 rfl
            have hS := hS9; clear hP9 hD9 hS9
            refine W.widen (k := 0) (n := 0) (Nat.le_of_ble_eq_true rfl) (Nat.le_of_ble_eq_true rfl) ?_
            have hP9 := hP
            have hD9 := hD
            have hK9 := (rgK11_ef93369 hK)
            have hf9_0 : (0 ≤ za0_0_3_108.toInt ∧ za0_0_3_108.toInt ≤ 1000) := by omega
            have hf9_1 : (0 ≤ za0_0_5_110.toInt ∧ za0_0_5_110.toInt ≤ 1000) := by omega
            have hf9_2 : (0 ≤ x117.toInt ∧ x117.toInt ≤ 12) := by omega
            have hf9_3 : RS g.2.2.2.2.1 rows zrows_89 := hRS
            have hf9_4 : (HOk y22 y36 x117) := HOk.grow hho e_y22 e_y36 rfl (by omega) (by omega) (by omega)
            exact W.vret hx hb hr (fun t ht hW => ⟨⟨(), rfl, trivial, za0_5_107, za0_0_3_108, za0_0_4_109, za0_0_5_110, za0_0_6_111, za0_0_7_112, x117, y22, y36, y104, y37, zrows_89, hf9_0, hf9_1, hf9_2, hf9_3, hf9_4, atB ht hP9, va_K.moved hW.alike hK9, hD9⟩, hS.F ht⟩) hS.2.2 dX5_readClose_177
      · have c105_39 : r11.toInt = 3 := (cv_eq rfl (by decide)).mp c105_39
        refine lv_aload_n hx hb dX5_readClose_108 rfl (lv_at hl 3 rfl) ?_
        refine va_getN (D := (dC, dI)) (ci := 0) (v := .ref a1_13) (C := RX1) (T := TX1) (N := 14) hx hb hts inlX1 hown hK hP 7 rgL13_3dfef5c rfl 13 (by decide) (va_Nw.use rfl (nf_60 hN)) (fun _ h9 => h9) rfl dX5_readClose_109 ?_
        refine lv_iload_n hx hb dX5_readClose_112 rfl (lv_at hl 1 rfl) ?_
        refine lv_aload_n hx hb dX5_readClose_113 rfl (lv_at hl 2 rfl) ?_
        have hPc := (rgP13_49f9aa6 hP)
        have hKc := (rgK11_8cec9cd hK)
        have hDc := (rgD13_acf4cb5 hD)
        have hFc := freeW hDc hS hA
        refine va_calli (va_runV (As := []) (rest := [.int a1_8, .ref a1_13]) ⟨hx, hb, hml, hown, hts⟩ (k_X5_readDate l dC dI g H.size (a0) (a0_0) (a0_1) (a0_2) (a0_3) (a0_4) (za0_5_26) (a0_0_0) (a0_0_1) (a0_0_2) (za0_0_3_27) (za0_0_4_28) (za0_0_5_29) (za0_0_6_30) (za0_0_7_31) (a0_0_0_c) (a0_0_0_f) (a0_0_1_c) (a0_0_1_f) (by omega) (by omega) (by omega) (by omega)) (cwV 0 hts (gwV qw_202 qw_203 qw_204 qw_100 qw_201) rfl rfl rfl (by decide +kernel) ⟨Nat.le_of_ble_eq_true rfl, Nat.le_of_ble_eq_true rfl⟩) ⟨fun a U g9 mk q => ⟨q.1, q.2.1, q.2.2.1, va_K.moved (u := U) (U := U.calling g9 mk a) (Vm.Alike.refl U.vm) q.2.2.2.1, q.2.2.2.2.1, Ev.bl q.2.2.2.2.2⟩, va_recv hK hP (ci := 4) (q0 := 0) rfl rgL13_4f8ef85, fun U hU hW => ⟨rfl, by rw [hU], atB hU hPc, va_K.moved hW.alike hKc, hDc.weaken (fun _ _ _ _ => trivial), hE.go hS hFc hU hW⟩⟩ rfl rfl hl.1 rfl (lv_room (Nat.le_of_ble_eq_true rfl)) dX5_readClose_114 ⟨Nat.le_of_ble_eq_true rfl, Nat.le_of_ble_eq_true rfl⟩) hS (fun q _ h => hFc q h) hFc (fun r119 u118 t H1 locs ht hvm h_u118 hB hz1 hk1 hS => ?_)
        obtain ⟨za0_5_120, za0_0_3_121, za0_0_4_122, za0_0_5_123, za0_0_6_124, za0_0_7_125, hF126, hF127, hF128, hP1, hK1, hD1⟩ := hB
        have hK1 := va_K.moved hvm.symm hK1
        have hJ9 := rgJ13_a63108a hP hD hk1 hFc (atH ht hP1) hD1
        clear hP hD hPc hKc hDc hFc hP1 hD1 hk1 hz1
        obtain ⟨hP, hD⟩ := hJ9
        clear hK1
        generalize H1 = H at hP hS ⊢
        refine W.widen (k := 0) (n := 0) (Nat.le_of_ble_eq_true rfl) (Nat.le_of_ble_eq_true rfl) ?_
        have h_r119 := congrArg Int32.toInt h_u118
        have b_r119 := i32b r119
        refine va_iast hx hb hK hP hD hS 12 9 rgL13_a477ea7 rgT11_da469ea (vinI (by omega) (by omega)) dX5_readClose_117 (fun H locs hP9 hD9 hS9 => ?_)
        obtain ⟨y129, e_y129⟩ : ∃ y, (upd y37 a1_8.toNatClampNeg r119) = y := ⟨_, rfl⟩
        clear hP hD hS
        obtain ⟨hP, hD⟩ := rgS13_4fd70f0 (e := (a1_13, .inl (a1_13_c, 12, .inl y129))) hP9 hD9 (congrArg (fun z9 => (((a1_13, .inl (a1_13_c, 12, .inl z9)) : Nat × va_E))) e_y129)
        have hS := hS9; clear hP9 hD9 hS9
        refine lv_goto (tgt := 153) hx hb dX5_readClose_118 (by decide) ?_
        refine lv_aload_n hx hb dX5_readClose_153 rfl (lv_at hl 2 rfl) ?_
        refine lv_bipush (v := 14) hx hb dX5_readClose_154 (by decide) ?_
        have qc14 : (14 : Int32).toInt = 14 := by decide
        have hPc := (rgP13_49f9aa6 hP)
        have hKc := (rgK11_8cec9cd hK)
        have hDc := (rgD13_acf4cb5 hD)
        have hFc := freeW hDc hS hA
        refine va_callv (va_runV (As := [.int 14]) (rest := []) ⟨hx, hb, hml, hown, hts⟩ (k_X5_pass l dC dI g H.size (a0) (14) (a0_0) (a0_1) (a0_2) (a0_3) (a0_4) (za0_5_120) (a0_0_0) (a0_0_1) (a0_0_2) (za0_0_3_121) (za0_0_4_122) (za0_0_5_123) (za0_0_6_124) (za0_0_7_125) (a0_0_0_c) (a0_0_0_f) (a0_0_1_c) (a0_0_1_f) (by omega) (by omega) (by omega) (by omega)) (cwV 1 hts (gwV qw_194 qw_195 qw_196 qw_100 qw_193) rfl rfl rfl (by decide +kernel) ⟨Nat.le_of_ble_eq_true rfl, Nat.le_of_ble_eq_true rfl⟩) ⟨fun a U g9 mk q => ⟨q.1, q.2.1, q.2.2.1, va_K.moved (u := U) (U := U.calling g9 mk a) (Vm.Alike.refl U.vm) q.2.2.2.1, q.2.2.2.2.1, Ev.bl q.2.2.2.2.2⟩, va_recv hK hP (ci := 4) (q0 := 0) rfl rgL13_4f8ef85, fun U hU hW => ⟨rfl, by rw [hU], atB hU hPc, va_K.moved hW.alike hKc, hDc.weaken (fun _ _ _ _ => trivial), hE.go hS hFc hU hW⟩⟩ rfl rfl hl.1 rfl (lv_room (Nat.le_of_ble_eq_true rfl)) dX5_readClose_156 ⟨Nat.le_of_ble_eq_true rfl, Nat.le_of_ble_eq_true rfl⟩) hS (fun q _ h => hFc q h) hFc (fun u130 t H1 locs ht hvm h_u130 hB hz1 hk1 hS => ?_)
        obtain ⟨za0_5_132, za0_0_3_133, za0_0_4_134, za0_0_5_135, za0_0_6_136, za0_0_7_137, hF138, hF139, hF140, hP1, hK1, hD1⟩ := hB
        have hK1 := va_K.moved hvm.symm hK1
        have hJ9 := rgJ13_a63108a hP hD hk1 hFc (atH ht hP1) hD1
        clear hP hD hPc hKc hDc hFc hP1 hD1 hk1 hz1
        obtain ⟨hP, hD⟩ := hJ9
        clear hK1
        generalize H1 = H at hP hS ⊢
        refine W.widen (k := 0) (n := 0) (Nat.le_of_ble_eq_true rfl) (Nat.le_of_ble_eq_true rfl) ?_
        refine lv_aload_n hx hb dX5_readClose_159 rfl (lv_at hl 2 rfl) ?_
        refine va_get (D := (dC, dI)) (ci := 4) (v := .int za0_5_132) (C := RX5) (T := TX5) (N := 6) hx hb hts inlX5 hown hK hP 0 rgL13_4f8ef85 rfl 5 (by decide) (hts (.fieldLink RX5 41 "ClosedUntil$TextReader" "fault" "I") qw_97) (fun _ h9 => h9) rfl dX5_readClose_160 ?_
        refine lv_iconst (v := (-1)) hx hb dX5_readClose_163 (by decide) ?_
        refine lv_icmp_ne (tgt := 177) hx hb dX5_readClose_164 (by decide) (fun c164_141 => ?_) (fun c164_141 => ?_)
        · have c164_141 : ¬ (za0_5_132.toInt = (-1)) := mt (cv_eq rfl (by decide)).mpr c164_141
          refine W.widen (k := 0) (n := 0) (Nat.le_of_ble_eq_true rfl) (Nat.le_of_ble_eq_true rfl) ?_
          have hP9 := hP
          have hD9 := hD
          have hK9 := (rgK11_ef93369 hK)
          have hf9_0 : (0 ≤ za0_0_3_133.toInt ∧ za0_0_3_133.toInt ≤ 1000) := by omega
          have hf9_1 : (0 ≤ za0_0_5_135.toInt ∧ za0_0_5_135.toInt ≤ 1000) := by omega
          have hf9_2 : (0 ≤ a1_8.toInt ∧ a1_8.toInt ≤ 12) := by omega
          have hf9_3 : RS g.2.2.2.2.1 rows rows := hRS
          have hf9_4 : (HOk y22 y36 a1_8) := HOk.keep hho e_y22 e_y36 rfl
          exact W.vret hx hb hr (fun t ht hW => ⟨⟨(), rfl, trivial, za0_5_132, za0_0_3_133, za0_0_4_134, za0_0_5_135, za0_0_6_136, za0_0_7_137, a1_8, y22, y36, y38, y129, rows, hf9_0, hf9_1, hf9_2, hf9_3, hf9_4, atB ht hP9, va_K.moved hW.alike hK9, hD9⟩, hS.F ht⟩) hS.2.2 dX5_readClose_177
        · have c164_141 : za0_5_132.toInt = (-1) := (cv_eq rfl (by decide)).mp c164_141
          refine lv_aload_n hx hb dX5_readClose_167 rfl (lv_at hl 3 rfl) ?_
          refine lv_dup hx hb dX5_readClose_168 rfl ?_
          refine va_getN (D := (dC, dI)) (ci := 0) (v := .int a1_8) (C := RX1) (T := TX1) (N := 14) hx hb hts inlX1 hown hK hP 7 rgL13_3dfef5c rfl 8 (by decide) (va_Nw.use rfl (nf_46 hN)) (fun _ h9 => h9) rfl dX5_readClose_169 ?_
          refine lv_iconst (v := 1) hx hb dX5_readClose_172 (by decide) ?_
          refine lv_iadd hx hb dX5_readClose_173 ?_
          refine lv_topi (fun x142 e_x142 => ?_)
          try have e_x142 := ti_add e_x142 rfl (show (1 : Int32).toInt = 1 by decide) (by omega)
          refine va_putN (D := (dC, dI)) (ci := 0) (v := .int x142) (ty := .int) (C := RX1) (T := TX1) (N := 14) hx hb hts inlX1 tyX1 tyX1_ok nmX1 hown hK hP hD hS 7 rgL13_3dfef5c rfl 8 (by decide) (va_Nw.use rfl (nf_46 hN)) (fun _ h9 => h9) rfl (by decide +kernel) rfl rfl (Nat.le_of_ble_eq_true rfl) dX5_readClose_174 (fun H locs hP9 hD9 hS9 => ?_)
          clear hP hD hS
          obtain ⟨hP, hD⟩ := rgS13_3f9ca5a (e := (a1, .inr (0, [.int a1_0, .ref a1_1, .int a1_2, .ref a1_3, .int a1_4, .ref a1_5, .ref a1_6, .ref a1_7, .int x142, .ref a1_9, .ref a1_10, .ref a1_11, .ref a1_12, .ref a1_13]))) hP9 hD9 rfl
          have hS := hS9; clear hP9 hD9 hS9
          refine W.widen (k := 0) (n := 0) (Nat.le_of_ble_eq_true rfl) (Nat.le_of_ble_eq_true rfl) ?_
          have hP9 := hP
          have hD9 := hD
          have hK9 := (rgK11_ef93369 hK)
          have hf9_0 : (0 ≤ za0_0_3_133.toInt ∧ za0_0_3_133.toInt ≤ 1000) := by omega
          have hf9_1 : (0 ≤ za0_0_5_135.toInt ∧ za0_0_5_135.toInt ≤ 1000) := by omega
          have hf9_2 : (0 ≤ x142.toInt ∧ x142.toInt ≤ 12) := by omega
          have hf9_3 : RS g.2.2.2.2.1 rows rows := hRS
          have hf9_4 : (HOk y22 y36 x142) := HOk.grow hho e_y22 e_y36 rfl (by omega) (by omega) (by omega)
          exact W.vret hx hb hr (fun t ht hW => ⟨⟨(), rfl, trivial, za0_5_132, za0_0_3_133, za0_0_4_134, za0_0_5_135, za0_0_6_136, za0_0_7_137, x142, y22, y36, y38, y129, rows, hf9_0, hf9_1, hf9_2, hf9_3, hf9_4, atB ht hP9, va_K.moved hW.alike hK9, hD9⟩, hS.F ht⟩) hS.2.2 dX5_readClose_177
    · have c44_12 : r11.toInt = (-1) := (cv_eq rfl (by decide)).mp c44_12
      refine lv_aload_n hx hb dX5_readClose_47 rfl (lv_at hl 2 rfl) ?_
      refine lv_iconst (v := 1) hx hb dX5_readClose_48 (by decide) ?_
      refine lv_aload_n hx hb dX5_readClose_49 rfl (lv_at hl 2 rfl) ?_
      refine va_get (D := (dC, dI)) (ci := 4) (v := .ref a0_0) (C := RX5) (T := TX5) (N := 6) hx hb hts inlX5 hown hK hP 0 rgL13_4f8ef85 rfl 0 (by decide) (hts (.fieldLink RX5 12 "ClosedUntil$TextReader" "tokens" "LClosedUntil$Tokens;") qw_98) (fun _ h9 => h9) rfl dX5_readClose_50 ?_
      refine va_getN (D := (dC, dI)) (ci := 6) (v := .int za0_5_6) (C := RX7) (T := TX7) (N := 8) hx hb hts inlX7 hown hK hP 1 rgL13_20d93e8 rfl 5 (by decide) (va_Nw.use rfl (nf_3 hN)) (fun _ h9 => h9) rfl dX5_readClose_53 ?_
      have qc1 : (1 : Int32).toInt = 1 := by decide
      have hPc := (rgP13_c8d6983 hP)
      have hKc := (rgK11_ef93369 hK)
      have hDc := (rgD13_6a74522 hD)
      have hFc := freeW hDc hS hA
      refine va_callv (va_runV (As := [.int 1, .int za0_5_6]) (rest := []) ⟨hx, hb, hml, hown, hts⟩ (k_X5_fail l dC dI g H.size (a0) (1) (za0_5_6) (a0_0) (a0_1) (a0_2) (a0_3) (a0_4) (a0_5) (by omega) (by omega) (by omega)) (cwV 2 hts (gwV qw_105 qw_106 qw_107 qw_100 qw_104) rfl rfl rfl (by decide +kernel) ⟨Nat.le_of_ble_eq_true rfl, Nat.le_of_ble_eq_true rfl⟩) ⟨fun a U g9 mk q => ⟨q.1, q.2.1, q.2.2.1, va_K.moved (u := U) (U := U.calling g9 mk a) (Vm.Alike.refl U.vm) q.2.2.2.1, q.2.2.2.2.1, Ev.bl q.2.2.2.2.2⟩, va_recv hK hP (ci := 4) (q0 := 0) rfl rgL13_4f8ef85, fun U hU hW => ⟨rfl, by rw [hU], atB hU hPc, va_K.moved hW.alike hKc, hDc.weaken (fun _ _ _ _ => trivial), hE.go hS hFc hU hW⟩⟩ rfl rfl hl.1 rfl (lv_room (Nat.le_of_ble_eq_true rfl)) dX5_readClose_56 ⟨Nat.le_of_ble_eq_true rfl, Nat.le_of_ble_eq_true rfl⟩) hS (fun q _ h => hFc q h) hFc (fun u143 t H1 locs ht hvm h_u143 hB hz1 hk1 hS => ?_)
      obtain ⟨za0_5_145, hF146, hP1, hK1, hD1⟩ := hB
      have hK1 := va_K.moved hvm.symm hK1
      have hJ9 := rgJ13_352f835 hP hD hk1 hFc (atH ht hP1) hD1
      clear hP hD hPc hKc hDc hFc hP1 hD1 hk1 hz1
      obtain ⟨hP, hD⟩ := hJ9
      clear hK1
      generalize H1 = H at hP hS ⊢
      refine W.widen (k := 0) (n := 0) (Nat.le_of_ble_eq_true rfl) (Nat.le_of_ble_eq_true rfl) ?_
      refine W.widen (k := 0) (n := 0) (Nat.le_of_ble_eq_true rfl) (Nat.le_of_ble_eq_true rfl) ?_
      have hP9 := hP
      have hD9 := hD
      have hK9 := (rgK11_ef93369 hK)
      have hf9_0 : (0 ≤ za0_3_4.toInt ∧ za0_3_4.toInt ≤ 1000) := by omega
      have hf9_1 : (0 ≤ za0_5_6.toInt ∧ za0_5_6.toInt ≤ 1000) := by omega
      have hf9_2 : (0 ≤ a1_8.toInt ∧ a1_8.toInt ≤ 12) := by omega
      have hf9_3 : RS g.2.2.2.2.1 rows rows := hRS
      have hf9_4 : (HOk a1_9_f a1_10_f a1_8) := hho
      exact W.vret hx hb hr (fun t ht hW => ⟨⟨(), rfl, trivial, za0_5_145, za0_3_4, za0_4_5, za0_5_6, za0_6_7, za0_7_8, a1_8, a1_9_f, a1_10_f, a1_11_f, a1_13_f, rows, hf9_0, hf9_1, hf9_2, hf9_3, hf9_4, atB ht hP9, va_K.moved hW.alike hK9, hD9⟩, hS.F ht⟩) hS.2.2 dX5_readClose_59
  · have c8_1 : ¬ (a1_8.toInt < 12) := mt (cv_lt rfl (by decide)).mpr c8_1
    refine lv_aload_n hx hb dX5_readClose_11 rfl (lv_at hl 1 rfl) ?_
    refine lv_iconst (v := 5) hx hb dX5_readClose_12 (by decide) ?_
    refine lv_aload_n hx hb dX5_readClose_13 rfl (lv_at hl 1 rfl) ?_
    refine va_get (D := (dC, dI)) (ci := 4) (v := .ref a0_0) (C := RX5) (T := TX5) (N := 6) hx hb hts inlX5 hown hK hP 0 rgL13_4f8ef85 rfl 0 (by decide) (hts (.fieldLink RX5 12 "ClosedUntil$TextReader" "tokens" "LClosedUntil$Tokens;") qw_98) (fun _ h9 => h9) rfl dX5_readClose_14 ?_
    refine va_getN (D := (dC, dI)) (ci := 6) (v := .int a0_0_5) (C := RX7) (T := TX7) (N := 8) hx hb hts inlX7 hown hK hP 1 rgL13_20d93e8 rfl 5 (by decide) (va_Nw.use rfl (nf_3 hN)) (fun _ h9 => h9) rfl dX5_readClose_17 ?_
    have qc5 : (5 : Int32).toInt = 5 := by decide
    have hPc := (rgP13_c8d6983 hP)
    have hKc := (rgK11_ef93369 hK)
    have hDc := (rgD13_6a74522 hD)
    have hFc := freeW hDc hS hA
    refine va_callv (va_runV (As := [.int 5, .int a0_0_5]) (rest := []) ⟨hx, hb, hml, hown, hts⟩ (k_X5_fail l dC dI g s.heap.size (a0) (5) (a0_0_5) (a0_0) (a0_1) (a0_2) (a0_3) (a0_4) (a0_5) (by omega) (by omega) (by omega)) (cwV 2 hts (gwV qw_105 qw_106 qw_107 qw_100 qw_104) rfl rfl rfl (by decide +kernel) ⟨Nat.le_of_ble_eq_true rfl, Nat.le_of_ble_eq_true rfl⟩) ⟨fun a U g9 mk q => ⟨q.1, q.2.1, q.2.2.1, va_K.moved (u := U) (U := U.calling g9 mk a) (Vm.Alike.refl U.vm) q.2.2.2.1, q.2.2.2.2.1, Ev.bl q.2.2.2.2.2⟩, va_recv hK hP (ci := 4) (q0 := 0) rfl rgL13_4f8ef85, fun U hU hW => ⟨rfl, by rw [hU], atB hU hPc, va_K.moved hW.alike hKc, hDc.weaken (fun _ _ _ _ => trivial), hE.go hS hFc hU hW⟩⟩ rfl rfl hl.1 rfl (lv_room (Nat.le_of_ble_eq_true rfl)) dX5_readClose_20 ⟨Nat.le_of_ble_eq_true rfl, Nat.le_of_ble_eq_true rfl⟩) hS (fun q _ h => hFc q h) hFc (fun u147 t H1 locs ht hvm h_u147 hB hz1 hk1 hS => ?_)
    obtain ⟨za0_5_149, hF150, hP1, hK1, hD1⟩ := hB
    have hK1 := va_K.moved hvm.symm hK1
    have hJ9 := rgJ13_352f835 hP hD hk1 hFc (atH ht hP1) hD1
    clear hP hD hPc hKc hDc hFc hP1 hD1 hk1 hz1
    obtain ⟨hP, hD⟩ := hJ9
    clear hK1
    generalize H1 = H at hP hS ⊢
    refine W.widen (k := 0) (n := 0) (Nat.le_of_ble_eq_true rfl) (Nat.le_of_ble_eq_true rfl) ?_
    refine W.widen (k := 0) (n := 0) (Nat.le_of_ble_eq_true rfl) (Nat.le_of_ble_eq_true rfl) ?_
    have hP9 := hP
    have hD9 := hD
    have hK9 := (rgK11_ef93369 hK)
    have hf9_0 : (0 ≤ a0_0_3.toInt ∧ a0_0_3.toInt ≤ 1000) := by omega
    have hf9_1 : (0 ≤ a0_0_5.toInt ∧ a0_0_5.toInt ≤ 1000) := by omega
    have hf9_2 : (0 ≤ a1_8.toInt ∧ a1_8.toInt ≤ 12) := by omega
    have hf9_3 : RS g.2.2.2.2.1 rows rows := hRS
    have hf9_4 : (HOk a1_9_f a1_10_f a1_8) := hho
    exact W.vret hx hb hr (fun t ht hW => ⟨⟨(), rfl, trivial, za0_5_149, a0_0_3, a0_0_4, a0_0_5, a0_0_6, a0_0_7, a1_8, a1_9_f, a1_10_f, a1_11_f, a1_13_f, rows, hf9_0, hf9_1, hf9_2, hf9_3, hf9_4, atB ht hP9, va_K.moved hW.alike hK9, hD9⟩, hS.F ht⟩) hS.2.2 dX5_readClose_23
set_option maxHeartbeats 4000000 in
set_option maxRecDepth 100000 in
theorem k_X5_read (l : Launch) (dC : Nat → ClassId) (dI : Nat → Nat → Nat) (g : Gv) (sz : Nat) (a0 : Nat) (a1 : Nat) (a2 : Int32) (a3 : Nat) (a4 : Nat) (a0_0 : Nat) (a0_1 : Nat) (a0_2 : Nat) (a0_3 : Nat) (a0_4 : Int32) (a0_5 : Int32) (a0_0_0 : Nat) (a0_0_1 : Nat) (a0_0_2 : Int32) (a0_0_3 : Int32) (a0_0_4 : Int32) (a0_0_5 : Int32) (a0_0_6 : Int64) (a0_0_7 : Int32) (a0_0_0_c : ClassId) (a0_0_0_f : Nat → Int64) (a0_1_c : ClassId) (a0_1_f : Nat → Int64) (a0_2_c : ClassId) (a0_2_f : Nat → Int32) (a0_3_c : ClassId) (a0_3_f : Nat → Int32) (a1_c : ClassId) (a1_f : Nat → Int32) (a3_0 : Int32) (a3_1 : Nat) (a3_2 : Int32) (a3_3 : Nat) (a3_4 : Int32) (a3_5 : Nat) (a3_6 : Nat) (a3_7 : Nat) (a3_8 : Int32) (a3_9 : Nat) (a3_10 : Nat) (a3_11 : Nat) (a3_12 : Nat) (a3_13 : Nat) (a3_1_c : ClassId) (a3_1_f : Nat → Int32) (a3_3_c : ClassId) (a3_3_f : Nat → Int32) (a3_5_c : ClassId) (a3_5_f : Nat → Int32) (a3_6_c : ClassId) (a3_6_f : Nat → Int32) (a3_7_c : ClassId) (a3_7_f : Nat → Int32) (a3_9_c : ClassId) (a3_9_f : Nat → Int32) (a3_10_c : ClassId) (a3_10_f : Nat → Int32) (a3_11_c : ClassId) (a3_11_f : Nat → Int32) (a3_12_c : ClassId) (a3_12_f : Nat → Option Nat) (a3_13_c : ClassId) (a3_13_f : Nat → Int32) (a4_0 : Nat) (a4_1 : Nat) (a4_2 : Nat) (a4_3 : Nat) (a4_4 : Nat) (a4_5 : Nat) (a4_0_c : ClassId) (a4_0_f : Nat → Int32) (a4_1_c : ClassId) (a4_1_f : Nat → Int32) (a4_2_c : ClassId) (a4_2_f : Nat → Int32) (a4_3_c : ClassId) (a4_3_f : Nat → Int32) (rows : va_W) (h_a0_4 : 0 ≤ a0_4.toInt ∧ a0_4.toInt ≤ 36) (h_a0_0_2 : 0 ≤ a0_0_2.toInt ∧ a0_0_2.toInt ≤ 1000) (h_a0_0_3 : 0 ≤ a0_0_3.toInt ∧ a0_0_3.toInt ≤ 1000) (h_a0_0_5 : 0 ≤ a0_0_5.toInt ∧ a0_0_5.toInt ≤ 1000) (h_a3_0 : 0 ≤ a3_0.toInt ∧ a3_0.toInt ≤ 8) (h_a3_2 : 0 ≤ a3_2.toInt ∧ a3_2.toInt ≤ 4) (h_a3_4 : 0 ≤ a3_4.toInt ∧ a3_4.toInt ≤ 24) (h_a3_8 : 0 ≤ a3_8.toInt ∧ a3_8.toInt ≤ 12) (h_a3_12_f : GR g.2.2.2.2.1 3 12 a3_12_f rows) (h_a4_3_f : vr 0 5 a4_3_f) (hn : 0 ≤ a2.toInt) : Met l yX5_read (.code yX5_read cX5_read 6 (some .int) :: TBL) ({ frames := 6, cells := 0, slots := 0, locals := 137 }) (va_Pc [.ref a0, .ref a1, .int a2, .ref a3, .ref a4] (fun U => U.heap.size = sz ∧ va_P (dC, dI) vwCl (([(a0, .inr (4, [.ref a0_0, .ref a0_1, .ref a0_2, .ref a0_3, .int a0_4, .int a0_5])), (a0_0, .inr (6, [.ref a0_0_0, .ref a0_0_1, .int a0_0_2, .int a0_0_3, .int a0_0_4, .int a0_0_5, .long a0_0_6, .int a0_0_7])), (a0_0_0, .inl (a0_0_0_c, 12, .inr (.inl a0_0_0_f))), (a0_1, .inl (a0_1_c, 36, .inr (.inl a0_1_f))), (a0_2, .inl (a0_2_c, 36, .inl a0_2_f)), (a0_3, .inl (a0_3_c, 36, .inl a0_3_f)), (a1, .inl (a1_c, 1000, .inl a1_f)), (a3, .inr (0, [.int a3_0, .ref a3_1, .int a3_2, .ref a3_3, .int a3_4, .ref a3_5, .ref a3_6, .ref a3_7, .int a3_8, .ref a3_9, .ref a3_10, .ref a3_11, .ref a3_12, .ref a3_13])), (a3_1, .inl (a3_1_c, 8, .inl a3_1_f)), (a3_3, .inl (a3_3_c, 4, .inl a3_3_f)), (a3_5, .inl (a3_5_c, 24, .inl a3_5_f)), (a3_6, .inl (a3_6_c, 24, .inl a3_6_f)), (a3_7, .inl (a3_7_c, 24, .inl a3_7_f)), (a3_9, .inl (a3_9_c, 12, .inl a3_9_f)), (a3_10, .inl (a3_10_c, 12, .inl a3_10_f)), (a3_11, .inl (a3_11_c, 12, .inl a3_11_f)), (a3_12, .inl (a3_12_c, 12, .inr (.inr (.inr (.inr a3_12_f))))), (a3_13, .inl (a3_13_c, 12, .inl a3_13_f)), (a4, .inr (2, [.ref a4_0, .ref a4_1, .ref a4_2, .ref a4_3, .ref a4_4, .ref a4_5])), (a4_0, .inl (a4_0_c, 24, .inl a4_0_f)), (a4_1, .inl (a4_1_c, 8, .inl a4_1_f)), (a4_2, .inl (a4_2_c, 12, .inl a4_2_f)), (a4_3, .inl (a4_3_c, 12, .inl a4_3_f))] : va_W) ++ rows) U.heap ∧ va_K (dC, dI) vwCl [(a0_0_0_c, .long), (a0_1_c, .long), (a0_2_c, .int), (a0_3_c, .int), (a1_c, .byte), (a3_1_c, .int), (a3_3_c, .int), (a3_5_c, .int), (a3_6_c, .int), (a3_7_c, .int), (a3_9_c, .int), (a3_10_c, .int), (a3_11_c, .boolean), (a3_12_c, .array .int), (a3_13_c, .int), (a4_0_c, .int), (a4_1_c, .int), (a4_2_c, .int), (a4_3_c, .int)] U ∧ va_D (fun _ => True) (([(a0, .inr (4, [.ref a0_0, .ref a0_1, .ref a0_2, .ref a0_3, .int a0_4, .int a0_5])), (a0_0, .inr (6, [.ref a0_0_0, .ref a0_0_1, .int a0_0_2, .int a0_0_3, .int a0_0_4, .int a0_0_5, .long a0_0_6, .int a0_0_7])), (a0_0_0, .inl (a0_0_0_c, 12, .inr (.inl a0_0_0_f))), (a0_1, .inl (a0_1_c, 36, .inr (.inl a0_1_f))), (a0_2, .inl (a0_2_c, 36, .inl a0_2_f)), (a0_3, .inl (a0_3_c, 36, .inl a0_3_f)), (a1, .inl (a1_c, 1000, .inl a1_f)), (a3, .inr (0, [.int a3_0, .ref a3_1, .int a3_2, .ref a3_3, .int a3_4, .ref a3_5, .ref a3_6, .ref a3_7, .int a3_8, .ref a3_9, .ref a3_10, .ref a3_11, .ref a3_12, .ref a3_13])), (a3_1, .inl (a3_1_c, 8, .inl a3_1_f)), (a3_3, .inl (a3_3_c, 4, .inl a3_3_f)), (a3_5, .inl (a3_5_c, 24, .inl a3_5_f)), (a3_6, .inl (a3_6_c, 24, .inl a3_6_f)), (a3_7, .inl (a3_7_c, 24, .inl a3_7_f)), (a3_9, .inl (a3_9_c, 12, .inl a3_9_f)), (a3_10, .inl (a3_10_c, 12, .inl a3_10_f)), (a3_11, .inl (a3_11_c, 12, .inl a3_11_f)), (a3_12, .inl (a3_12_c, 12, .inr (.inr (.inr (.inr a3_12_f))))), (a3_13, .inl (a3_13_c, 12, .inl a3_13_f)), (a4, .inr (2, [.ref a4_0, .ref a4_1, .ref a4_2, .ref a4_3, .ref a4_4, .ref a4_5])), (a4_0, .inl (a4_0_c, 24, .inl a4_0_f)), (a4_1, .inl (a4_1_c, 8, .inl a4_1_f)), (a4_2, .inl (a4_2_c, 12, .inl a4_2_f)), (a4_3, .inl (a4_3_c, 12, .inl a4_3_f))] : va_W) ++ rows) ∧ Ev g (va_A (([(a0, .inr (4, [.ref a0_0, .ref a0_1, .ref a0_2, .ref a0_3, .int a0_4, .int a0_5])), (a0_0, .inr (6, [.ref a0_0_0, .ref a0_0_1, .int a0_0_2, .int a0_0_3, .int a0_0_4, .int a0_0_5, .long a0_0_6, .int a0_0_7])), (a0_0_0, .inl (a0_0_0_c, 12, .inr (.inl a0_0_0_f))), (a0_1, .inl (a0_1_c, 36, .inr (.inl a0_1_f))), (a0_2, .inl (a0_2_c, 36, .inl a0_2_f)), (a0_3, .inl (a0_3_c, 36, .inl a0_3_f)), (a1, .inl (a1_c, 1000, .inl a1_f)), (a3, .inr (0, [.int a3_0, .ref a3_1, .int a3_2, .ref a3_3, .int a3_4, .ref a3_5, .ref a3_6, .ref a3_7, .int a3_8, .ref a3_9, .ref a3_10, .ref a3_11, .ref a3_12, .ref a3_13])), (a3_1, .inl (a3_1_c, 8, .inl a3_1_f)), (a3_3, .inl (a3_3_c, 4, .inl a3_3_f)), (a3_5, .inl (a3_5_c, 24, .inl a3_5_f)), (a3_6, .inl (a3_6_c, 24, .inl a3_6_f)), (a3_7, .inl (a3_7_c, 24, .inl a3_7_f)), (a3_9, .inl (a3_9_c, 12, .inl a3_9_f)), (a3_10, .inl (a3_10_c, 12, .inl a3_10_f)), (a3_11, .inl (a3_11_c, 12, .inl a3_11_f)), (a3_12, .inl (a3_12_c, 12, .inr (.inr (.inr (.inr a3_12_f))))), (a3_13, .inl (a3_13_c, 12, .inl a3_13_f)), (a4, .inr (2, [.ref a4_0, .ref a4_1, .ref a4_2, .ref a4_3, .ref a4_4, .ref a4_5])), (a4_0, .inl (a4_0_c, 24, .inl a4_0_f)), (a4_1, .inl (a4_1_c, 8, .inl a4_1_f)), (a4_2, .inl (a4_2_c, 12, .inl a4_2_f)), (a4_3, .inl (a4_3_c, 12, .inl a4_3_f))] : va_W) ++ rows) sz) U)) (va_Qi (fun (r : Int32) (u : Int32) => u = r) (fun (u : Int32) (t : State) => ∃ (za0_4 : Int32) (za0_5 : Int32) (za0_0_2 : Int32) (za0_0_3 : Int32) (za0_0_4 : Int32) (za0_0_5 : Int32) (za0_0_6 : Int64) (za0_0_7 : Int32) (za0_1_f : Nat → Int64) (za0_2_f : Nat → Int32) (za0_3_f : Nat → Int32) (za3_0 : Int32) (za3_2 : Int32) (za3_4 : Int32) (za3_8 : Int32) (za3_1_f : Nat → Int32) (za3_3_f : Nat → Int32) (za3_5_f : Nat → Int32) (za3_6_f : Nat → Int32) (za3_7_f : Nat → Int32) (za3_9_f : Nat → Int32) (za3_10_f : Nat → Int32) (za3_11_f : Nat → Int32) (za3_13_f : Nat → Int32) (za4_0_f : Nat → Int32) (za4_1_f : Nat → Int32) (za4_2_f : Nat → Int32) (za4_3_f : Nat → Int32) (zrows : va_W), (0 ≤ za0_4.toInt ∧ za0_4.toInt ≤ 36) ∧ (0 ≤ za0_0_2.toInt ∧ za0_0_2.toInt ≤ 1000) ∧ (0 ≤ za0_0_3.toInt ∧ za0_0_3.toInt ≤ 1000) ∧ (0 ≤ za0_0_5.toInt ∧ za0_0_5.toInt ≤ 1000) ∧ (0 ≤ za3_0.toInt ∧ za3_0.toInt ≤ 8) ∧ (0 ≤ za3_2.toInt ∧ za3_2.toInt ≤ 4) ∧ (0 ≤ za3_4.toInt ∧ za3_4.toInt ≤ 24) ∧ (0 ≤ za3_8.toInt ∧ za3_8.toInt ≤ 12) ∧ vr 0 5 za4_3_f ∧ RS g.2.2.2.2.1 rows zrows ∧ (HOk za3_9_f za3_10_f za3_8) ∧ va_P (dC, dI) vwCl (([(a0, .inr (4, [.ref a0_0, .ref a0_1, .ref a0_2, .ref a0_3, .int za0_4, .int za0_5])), (a0_0, .inr (6, [.ref a0_0_0, .ref a1, .int za0_0_2, .int za0_0_3, .int za0_0_4, .int za0_0_5, .long za0_0_6, .int za0_0_7])), (a0_0_0, .inl (a0_0_0_c, 12, .inr (.inl a0_0_0_f))), (a0_1, .inl (a0_1_c, 36, .inr (.inl za0_1_f))), (a0_2, .inl (a0_2_c, 36, .inl za0_2_f)), (a0_3, .inl (a0_3_c, 36, .inl za0_3_f)), (a1, .inl (a1_c, 1000, .inl a1_f)), (a3, .inr (0, [.int za3_0, .ref a3_1, .int za3_2, .ref a3_3, .int za3_4, .ref a3_5, .ref a3_6, .ref a3_7, .int za3_8, .ref a3_9, .ref a3_10, .ref a3_11, .ref a3_12, .ref a3_13])), (a3_1, .inl (a3_1_c, 8, .inl za3_1_f)), (a3_3, .inl (a3_3_c, 4, .inl za3_3_f)), (a3_5, .inl (a3_5_c, 24, .inl za3_5_f)), (a3_6, .inl (a3_6_c, 24, .inl za3_6_f)), (a3_7, .inl (a3_7_c, 24, .inl za3_7_f)), (a3_9, .inl (a3_9_c, 12, .inl za3_9_f)), (a3_10, .inl (a3_10_c, 12, .inl za3_10_f)), (a3_11, .inl (a3_11_c, 12, .inl za3_11_f)), (a3_12, .inl (a3_12_c, 12, .inr (.inr (.inr (.inr a3_12_f))))), (a3_13, .inl (a3_13_c, 12, .inl za3_13_f)), (a4, .inr (2, [.ref a4_0, .ref a4_1, .ref a4_2, .ref a4_3, .ref a4_4, .ref a4_5])), (a4_0, .inl (a4_0_c, 24, .inl za4_0_f)), (a4_1, .inl (a4_1_c, 8, .inl za4_1_f)), (a4_2, .inl (a4_2_c, 12, .inl za4_2_f)), (a4_3, .inl (a4_3_c, 12, .inl za4_3_f))] : va_W) ++ zrows) t.heap ∧ va_K (dC, dI) vwCl [] t ∧ va_D (va_A (([(a0, .inr (4, [.ref a0_0, .ref a0_1, .ref a0_2, .ref a0_3, .int a0_4, .int a0_5])), (a0_0, .inr (6, [.ref a0_0_0, .ref a0_0_1, .int a0_0_2, .int a0_0_3, .int a0_0_4, .int a0_0_5, .long a0_0_6, .int a0_0_7])), (a0_0_0, .inl (a0_0_0_c, 12, .inr (.inl a0_0_0_f))), (a0_1, .inl (a0_1_c, 36, .inr (.inl a0_1_f))), (a0_2, .inl (a0_2_c, 36, .inl a0_2_f)), (a0_3, .inl (a0_3_c, 36, .inl a0_3_f)), (a1, .inl (a1_c, 1000, .inl a1_f)), (a3, .inr (0, [.int a3_0, .ref a3_1, .int a3_2, .ref a3_3, .int a3_4, .ref a3_5, .ref a3_6, .ref a3_7, .int a3_8, .ref a3_9, .ref a3_10, .ref a3_11, .ref a3_12, .ref a3_13])), (a3_1, .inl (a3_1_c, 8, .inl a3_1_f)), (a3_3, .inl (a3_3_c, 4, .inl a3_3_f)), (a3_5, .inl (a3_5_c, 24, .inl a3_5_f)), (a3_6, .inl (a3_6_c, 24, .inl a3_6_f)), (a3_7, .inl (a3_7_c, 24, .inl a3_7_f)), (a3_9, .inl (a3_9_c, 12, .inl a3_9_f)), (a3_10, .inl (a3_10_c, 12, .inl a3_10_f)), (a3_11, .inl (a3_11_c, 12, .inl a3_11_f)), (a3_12, .inl (a3_12_c, 12, .inr (.inr (.inr (.inr a3_12_f))))), (a3_13, .inl (a3_13_c, 12, .inl a3_13_f)), (a4, .inr (2, [.ref a4_0, .ref a4_1, .ref a4_2, .ref a4_3, .ref a4_4, .ref a4_5])), (a4_0, .inl (a4_0_c, 24, .inl a4_0_f)), (a4_1, .inl (a4_1_c, 8, .inl a4_1_f)), (a4_2, .inl (a4_2_c, 12, .inl a4_2_f)), (a4_3, .inl (a4_3_c, 12, .inl a4_3_f))] : va_W) ++ rows) sz) (([(a0, .inr (4, [.ref a0_0, .ref a0_1, .ref a0_2, .ref a0_3, .int za0_4, .int za0_5])), (a0_0, .inr (6, [.ref a0_0_0, .ref a1, .int za0_0_2, .int za0_0_3, .int za0_0_4, .int za0_0_5, .long za0_0_6, .int za0_0_7])), (a0_0_0, .inl (a0_0_0_c, 12, .inr (.inl a0_0_0_f))), (a0_1, .inl (a0_1_c, 36, .inr (.inl za0_1_f))), (a0_2, .inl (a0_2_c, 36, .inl za0_2_f)), (a0_3, .inl (a0_3_c, 36, .inl za0_3_f)), (a1, .inl (a1_c, 1000, .inl a1_f)), (a3, .inr (0, [.int za3_0, .ref a3_1, .int za3_2, .ref a3_3, .int za3_4, .ref a3_5, .ref a3_6, .ref a3_7, .int za3_8, .ref a3_9, .ref a3_10, .ref a3_11, .ref a3_12, .ref a3_13])), (a3_1, .inl (a3_1_c, 8, .inl za3_1_f)), (a3_3, .inl (a3_3_c, 4, .inl za3_3_f)), (a3_5, .inl (a3_5_c, 24, .inl za3_5_f)), (a3_6, .inl (a3_6_c, 24, .inl za3_6_f)), (a3_7, .inl (a3_7_c, 24, .inl za3_7_f)), (a3_9, .inl (a3_9_c, 12, .inl za3_9_f)), (a3_10, .inl (a3_10_c, 12, .inl za3_10_f)), (a3_11, .inl (a3_11_c, 12, .inl za3_11_f)), (a3_12, .inl (a3_12_c, 12, .inr (.inr (.inr (.inr a3_12_f))))), (a3_13, .inl (a3_13_c, 12, .inl za3_13_f)), (a4, .inr (2, [.ref a4_0, .ref a4_1, .ref a4_2, .ref a4_3, .ref a4_4, .ref a4_5])), (a4_0, .inl (a4_0_c, 24, .inl za4_0_f)), (a4_1, .inl (a4_1_c, 8, .inl za4_1_f)), (a4_2, .inl (a4_2_c, 12, .inl za4_2_f)), (a4_3, .inl (a4_3_c, 12, .inl za4_3_f))] : va_W) ++ zrows)) (va_A (([(a0, .inr (4, [.ref a0_0, .ref a0_1, .ref a0_2, .ref a0_3, .int a0_4, .int a0_5])), (a0_0, .inr (6, [.ref a0_0_0, .ref a0_0_1, .int a0_0_2, .int a0_0_3, .int a0_0_4, .int a0_0_5, .long a0_0_6, .int a0_0_7])), (a0_0_0, .inl (a0_0_0_c, 12, .inr (.inl a0_0_0_f))), (a0_1, .inl (a0_1_c, 36, .inr (.inl a0_1_f))), (a0_2, .inl (a0_2_c, 36, .inl a0_2_f)), (a0_3, .inl (a0_3_c, 36, .inl a0_3_f)), (a1, .inl (a1_c, 1000, .inl a1_f)), (a3, .inr (0, [.int a3_0, .ref a3_1, .int a3_2, .ref a3_3, .int a3_4, .ref a3_5, .ref a3_6, .ref a3_7, .int a3_8, .ref a3_9, .ref a3_10, .ref a3_11, .ref a3_12, .ref a3_13])), (a3_1, .inl (a3_1_c, 8, .inl a3_1_f)), (a3_3, .inl (a3_3_c, 4, .inl a3_3_f)), (a3_5, .inl (a3_5_c, 24, .inl a3_5_f)), (a3_6, .inl (a3_6_c, 24, .inl a3_6_f)), (a3_7, .inl (a3_7_c, 24, .inl a3_7_f)), (a3_9, .inl (a3_9_c, 12, .inl a3_9_f)), (a3_10, .inl (a3_10_c, 12, .inl a3_10_f)), (a3_11, .inl (a3_11_c, 12, .inl a3_11_f)), (a3_12, .inl (a3_12_c, 12, .inr (.inr (.inr (.inr a3_12_f))))), (a3_13, .inl (a3_13_c, 12, .inl a3_13_f)), (a4, .inr (2, [.ref a4_0, .ref a4_1, .ref a4_2, .ref a4_3, .ref a4_4, .ref a4_5])), (a4_0, .inl (a4_0_c, 24, .inl a4_0_f)), (a4_1, .inl (a4_1_c, 8, .inl a4_1_f)), (a4_2, .inl (a4_2_c, 12, .inl a4_2_f)), (a4_3, .inl (a4_3_c, 12, .inl a4_3_f))] : va_W) ++ rows) sz)) 0 0 (va_A (([(a0, .inr (4, [.ref a0_0, .ref a0_1, .ref a0_2, .ref a0_3, .int a0_4, .int a0_5])), (a0_0, .inr (6, [.ref a0_0_0, .ref a0_0_1, .int a0_0_2, .int a0_0_3, .int a0_0_4, .int a0_0_5, .long a0_0_6, .int a0_0_7])), (a0_0_0, .inl (a0_0_0_c, 12, .inr (.inl a0_0_0_f))), (a0_1, .inl (a0_1_c, 36, .inr (.inl a0_1_f))), (a0_2, .inl (a0_2_c, 36, .inl a0_2_f)), (a0_3, .inl (a0_3_c, 36, .inl a0_3_f)), (a1, .inl (a1_c, 1000, .inl a1_f)), (a3, .inr (0, [.int a3_0, .ref a3_1, .int a3_2, .ref a3_3, .int a3_4, .ref a3_5, .ref a3_6, .ref a3_7, .int a3_8, .ref a3_9, .ref a3_10, .ref a3_11, .ref a3_12, .ref a3_13])), (a3_1, .inl (a3_1_c, 8, .inl a3_1_f)), (a3_3, .inl (a3_3_c, 4, .inl a3_3_f)), (a3_5, .inl (a3_5_c, 24, .inl a3_5_f)), (a3_6, .inl (a3_6_c, 24, .inl a3_6_f)), (a3_7, .inl (a3_7_c, 24, .inl a3_7_f)), (a3_9, .inl (a3_9_c, 12, .inl a3_9_f)), (a3_10, .inl (a3_10_c, 12, .inl a3_10_f)), (a3_11, .inl (a3_11_c, 12, .inl a3_11_f)), (a3_12, .inl (a3_12_c, 12, .inr (.inr (.inr (.inr a3_12_f))))), (a3_13, .inl (a3_13_c, 12, .inl a3_13_f)), (a4, .inr (2, [.ref a4_0, .ref a4_1, .ref a4_2, .ref a4_3, .ref a4_4, .ref a4_5])), (a4_0, .inl (a4_0_c, 24, .inl a4_0_f)), (a4_1, .inl (a4_1_c, 8, .inl a4_1_f)), (a4_2, .inl (a4_2_c, 12, .inl a4_2_f)), (a4_3, .inl (a4_3_c, 12, .inl a4_3_f))] : va_W) ++ rows) sz) := by
  refine Met.ofW (cc := cX5_read) (maxL := 6) (ret := (some .int)) (by decide) rfl ?_
  intro p e s m args below meth c s₁ B hml hv
  obtain ⟨rfl, hsz, hP, hK, hD0, hE⟩ := hv
  have hx := B.exec
  have hb := B.bytes
  have hr := B.returns
  have hts0 := atoms_spec (ws := (.code yX5_read cX5_read 6 (some .int) :: TBL)) B.pre
  have hts := fun (w : Cond) (h : w ∈ TBL) => hts0 w (List.mem_cons_of_mem _ h)
  have hown : s.vm.findClass RX5 = some m.cls := findClass_of_methodNamed B.named
  have hlocks := B.notSynchronized
  have hN := hE.1
  subst hsz
  have hD := hD0.self (sz := s.heap.size)
  generalize hAe : va_A (([(a0, .inr (4, [.ref a0_0, .ref a0_1, .ref a0_2, .ref a0_3, .int a0_4, .int a0_5])), (a0_0, .inr (6, [.ref a0_0_0, .ref a0_0_1, .int a0_0_2, .int a0_0_3, .int a0_0_4, .int a0_0_5, .long a0_0_6, .int a0_0_7])), (a0_0_0, .inl (a0_0_0_c, 12, .inr (.inl a0_0_0_f))), (a0_1, .inl (a0_1_c, 36, .inr (.inl a0_1_f))), (a0_2, .inl (a0_2_c, 36, .inl a0_2_f)), (a0_3, .inl (a0_3_c, 36, .inl a0_3_f)), (a1, .inl (a1_c, 1000, .inl a1_f)), (a3, .inr (0, [.int a3_0, .ref a3_1, .int a3_2, .ref a3_3, .int a3_4, .ref a3_5, .ref a3_6, .ref a3_7, .int a3_8, .ref a3_9, .ref a3_10, .ref a3_11, .ref a3_12, .ref a3_13])), (a3_1, .inl (a3_1_c, 8, .inl a3_1_f)), (a3_3, .inl (a3_3_c, 4, .inl a3_3_f)), (a3_5, .inl (a3_5_c, 24, .inl a3_5_f)), (a3_6, .inl (a3_6_c, 24, .inl a3_6_f)), (a3_7, .inl (a3_7_c, 24, .inl a3_7_f)), (a3_9, .inl (a3_9_c, 12, .inl a3_9_f)), (a3_10, .inl (a3_10_c, 12, .inl a3_10_f)), (a3_11, .inl (a3_11_c, 12, .inl a3_11_f)), (a3_12, .inl (a3_12_c, 12, .inr (.inr (.inr (.inr a3_12_f))))), (a3_13, .inl (a3_13_c, 12, .inl a3_13_f)), (a4, .inr (2, [.ref a4_0, .ref a4_1, .ref a4_2, .ref a4_3, .ref a4_4, .ref a4_5])), (a4_0, .inl (a4_0_c, 24, .inl a4_0_f)), (a4_1, .inl (a4_1_c, 8, .inl a4_1_f)), (a4_2, .inl (a4_2_c, 12, .inl a4_2_f)), (a4_3, .inl (a4_3_c, 12, .inl a4_3_f))] : va_W) ++ rows) s.heap.size = A at hD hE ⊢
  have hA : ∀ q : Nat, s.heap.size ≤ q → A q := fun q h => by rw [← hAe]; exact Or.inr h
  have hS : va_S A s.heap s.heap [] := va_S.rf
  replace hP : va_P (dC, dI) vwCl (([(a0, .inr (4, [.ref a0_0, .ref a0_1, .ref a0_2, .ref a0_3, .int a0_4, .int a0_5])), (a0_0, .inr (6, [.ref a0_0_0, .ref a0_0_1, .int a0_0_2, .int a0_0_3, .int a0_0_4, .int a0_0_5, .long a0_0_6, .int a0_0_7])), (a0_0_0, .inl (a0_0_0_c, 12, .inr (.inl a0_0_0_f))), (a0_1, .inl (a0_1_c, 36, .inr (.inl a0_1_f))), (a0_2, .inl (a0_2_c, 36, .inl a0_2_f)), (a0_3, .inl (a0_3_c, 36, .inl a0_3_f)), (a1, .inl (a1_c, 1000, .inl a1_f)), (a3, .inr (0, [.int a3_0, .ref a3_1, .int a3_2, .ref a3_3, .int a3_4, .ref a3_5, .ref a3_6, .ref a3_7, .int a3_8, .ref a3_9, .ref a3_10, .ref a3_11, .ref a3_12, .ref a3_13])), (a3_1, .inl (a3_1_c, 8, .inl a3_1_f)), (a3_3, .inl (a3_3_c, 4, .inl a3_3_f)), (a3_5, .inl (a3_5_c, 24, .inl a3_5_f)), (a3_6, .inl (a3_6_c, 24, .inl a3_6_f)), (a3_7, .inl (a3_7_c, 24, .inl a3_7_f)), (a3_9, .inl (a3_9_c, 12, .inl a3_9_f)), (a3_10, .inl (a3_10_c, 12, .inl a3_10_f)), (a3_11, .inl (a3_11_c, 12, .inl a3_11_f)), (a3_12, .inl (a3_12_c, 12, .inr (.inr (.inr (.inr a3_12_f))))), (a3_13, .inl (a3_13_c, 12, .inl a3_13_f)), (a4, .inr (2, [.ref a4_0, .ref a4_1, .ref a4_2, .ref a4_3, .ref a4_4, .ref a4_5])), (a4_0, .inl (a4_0_c, 24, .inl a4_0_f)), (a4_1, .inl (a4_1_c, 8, .inl a4_1_f)), (a4_2, .inl (a4_2_c, 12, .inl a4_2_f)), (a4_3, .inl (a4_3_c, 12, .inl a4_3_f))] : va_W) ++ rows) s.heap := hP
  have hl := lv_entry ([.ref a0, .ref a1, .int a2, .ref a3, .ref a4]) (n := 6) (Nat.le_of_ble_eq_true rfl)
  rw [lg_entry_eq]
  generalize (lg_sl ([.ref a0, .ref a1, .int a2, .ref a3, .ref a4]) ++ List.replicate (6 - (lg_sl ([.ref a0, .ref a1, .int a2, .ref a3, .ref a4])).length) Slot.unset).toArray = ls at hl ⊢
  have hl : lv_has ls 6 [(0, .ref a0), (1, .ref a1), (2, .int a2), (3, .ref a3), (4, .ref a4)] := hl
  have hK := cyK hK (hts (.arrayClass .int) qw_54) hE.2.2.2.2.2.2.2.2.2.2.2.2.1
  replace hK : va_K (dC, dI) vwCl [(a0_0_0_c, .long), (a0_1_c, .long), (a0_2_c, .int), (a0_3_c, .int), (a1_c, .byte), (a3_1_c, .int), (a3_3_c, .int), (a3_5_c, .int), (a3_6_c, .int), (a3_7_c, .int), (a3_9_c, .int), (a3_10_c, .int), (a3_11_c, .boolean), (a3_12_c, .array .int), (a3_13_c, .int), (a4_0_c, .int), (a4_1_c, .int), (a4_2_c, .int), (a4_3_c, .int), (g.2.2.2.2.1, .int)] s := hK
  have b_a2 := i32b a2
  have b_a0_5 := i32b a0_5
  have b_a0_0_4 := i32b a0_0_4
  have b_a0_0_7 := i32b a0_0_7
  have hRS : RS g.2.2.2.2.1 rows rows := RS.rf
  refine lv_aload_n hx hb dX5_read_0 rfl (lv_at hl 3 rfl) ?_
  have hPc := (rgP23_76b12a0 hP)
  have hKc := (rgK20_c4ba21f hK)
  have hDc := (rgD23_788af2b hD)
  have hFc := freeW hDc hS hA
  refine va_callv (va_runVN (As := []) (rest := []) ⟨hx, hb, hml, hown, hts⟩ (k_X1_clear l dC dI g s.heap.size (a3) (a3_0) (a3_1) (a3_2) (a3_3) (a3_4) (a3_5) (a3_6) (a3_7) (a3_8) (a3_9) (a3_10) (a3_11) (a3_12) (a3_13) (by omega) (by omega) (by omega) (by omega)) ⟨va_cnB 0 hts (gwC qw_217) rfl rfl rfl (nm_10 hN) (hts (.initialized RX1) qw_183) (by decide +kernel) ⟨Nat.le_of_ble_eq_true rfl, Nat.le_of_ble_eq_true rfl⟩, (hts (.instanceMethod yX1_clear) qw_218), (hts (.selects RX1 yX1_clear yX1_clear) qw_219)⟩ ⟨fun a U g9 mk q => ⟨q.1, q.2.1, q.2.2.1, va_K.moved (u := U) (U := U.calling g9 mk a) (Vm.Alike.refl U.vm) q.2.2.2.1, q.2.2.2.2.1, Ev.bl q.2.2.2.2.2⟩, va_recv hK hP (ci := 0) (q0 := 7) rfl rgL23_5b6935e, fun U hU hW => ⟨rfl, by rw [hU], atB hU hPc, va_K.moved hW.alike hKc, hDc.weaken (fun _ _ _ _ => trivial), hE.go hS hFc hU hW⟩⟩ rfl rfl hl.1 rfl (lv_room (Nat.le_of_ble_eq_true rfl)) dX5_read_1 ⟨Nat.le_of_ble_eq_true rfl, Nat.le_of_ble_eq_true rfl⟩) hS (fun q _ h => hFc q h) hFc (fun u1 t H1 locs ht hvm h_u1 hB hz1 hk1 hS => ?_)
  obtain ⟨za0_0_3, za0_2_4, za0_4_5, za0_8_6, hF7, hF8, hF9, hF10, hF11, hF12, hF13, hF14, hP1, hK1, hD1⟩ := hB
  have hK1 := va_K.moved hvm.symm hK1
  have hJ9 := rgJ23_a393277 hP hD hk1 hFc (atH ht hP1) hD1
  clear hP hD hPc hKc hDc hFc hP1 hD1 hk1 hz1
  obtain ⟨hP, hD⟩ := hJ9
  clear hK1
  generalize H1 = H at hP hS ⊢
  refine W.widen (k := 0) (n := 0) (Nat.le_of_ble_eq_true rfl) (Nat.le_of_ble_eq_true rfl) ?_
  refine lv_aload hx hb dX5_read_4 (lv_at hl 4 rfl) ?_
  have hPc := (rgP23_e49033d hP)
  have hKc := (rgK20_0fe018b hK)
  have hDc := (rgD23_40ec195 hD)
  have hFc := freeW hDc hS hA
  refine va_callv (va_runVN (As := []) (rest := []) ⟨hx, hb, hml, hown, hts⟩ (k_X3_clear l dC dI g H.size (a4) (a4_0) (a4_1) (a4_2) (a4_3) (a4_4) (a4_5) (a4_0_c) (a4_0_f) (a4_1_c) (a4_1_f) (a4_2_c) (a4_2_f) (a4_3_c) (a4_3_f) h_a4_3_f) ⟨va_cnB 0 hts (gwC qw_220) rfl rfl rfl (nm_11 hN) (hts (.initialized RX3) qw_57) (by decide +kernel) ⟨Nat.le_of_ble_eq_true rfl, Nat.le_of_ble_eq_true rfl⟩, (hts (.instanceMethod yX3_clear) qw_221), (hts (.selects RX3 yX3_clear yX3_clear) qw_222)⟩ ⟨fun a U g9 mk q => ⟨q.1, q.2.1, q.2.2.1, va_K.moved (u := U) (U := U.calling g9 mk a) (Vm.Alike.refl U.vm) q.2.2.2.1, q.2.2.2.2.1, Ev.bl q.2.2.2.2.2⟩, va_recv hK hP (ci := 2) (q0 := 18) rfl rgL23_29d6090, fun U hU hW => ⟨rfl, by rw [hU], atB hU hPc, va_K.moved hW.alike hKc, hDc.weaken (fun _ _ _ _ => trivial), hE.go hS hFc hU hW⟩⟩ rfl rfl hl.1 rfl (lv_room (Nat.le_of_ble_eq_true rfl)) dX5_read_6 ⟨Nat.le_of_ble_eq_true rfl, Nat.le_of_ble_eq_true rfl⟩) hS (fun q _ h => hFc q h) hFc (fun u15 t H1 locs ht hvm h_u15 hB hz1 hk1 hS => ?_)
  obtain ⟨za0_0_f_17, za0_1_f_18, za0_2_f_19, za0_3_f_20, hF21, hP1, hK1, hD1⟩ := hB
  have hK1 := va_K.moved hvm.symm hK1
  have hJ9 := rgJ23_1cb181f hP hD hk1 hFc (atH ht hP1) hD1
  clear hP hD hPc hKc hDc hFc hP1 hD1 hk1 hz1
  obtain ⟨hP, hD⟩ := hJ9
  clear hK1
  generalize H1 = H at hP hS ⊢
  refine W.widen (k := 0) (n := 0) (Nat.le_of_ble_eq_true rfl) (Nat.le_of_ble_eq_true rfl) ?_
  refine lv_aload_n hx hb dX5_read_9 rfl (lv_at hl 0 rfl) ?_
  refine lv_iconst (v := 0) hx hb dX5_read_10 (by decide) ?_
  refine va_put (D := (dC, dI)) (ci := 4) (v := .int 0) (ty := .int) (C := RX5) (T := TX5) (N := 6) hx hb hts inlX5 tyX5 tyX5_ok nmX5 hown hK hP hD hS 0 rgL23_e3204fb rfl 4 (by decide) (hts (.fieldLink RX5 37 "ClosedUntil$TextReader" "nameCount" "I") qw_108) (fun _ h9 => h9) rfl (by decide +kernel) rfl rfl (Nat.le_of_ble_eq_true rfl) dX5_read_11 (fun H locs hP9 hD9 hS9 => ?_)
  clear hP hD hS
  obtain ⟨hP, hD⟩ := rgS23_2fb16fa (e := (a0, .inr (4, [.ref a0_0, .ref a0_1, .ref a0_2, .ref a0_3, .int 0, .int a0_5]))) hP9 hD9 rfl
  have hS := hS9; clear hP9 hD9 hS9
  refine lv_aload_n hx hb dX5_read_14 rfl (lv_at hl 0 rfl) ?_
  refine lv_iconst (v := (-1)) hx hb dX5_read_15 (by decide) ?_
  refine va_put (D := (dC, dI)) (ci := 4) (v := .int (-1)) (ty := .int) (C := RX5) (T := TX5) (N := 6) hx hb hts inlX5 tyX5 tyX5_ok nmX5 hown hK hP hD hS 0 rgL23_e3204fb rfl 5 (by decide) (hts (.fieldLink RX5 41 "ClosedUntil$TextReader" "fault" "I") qw_97) (fun _ h9 => h9) rfl (by decide +kernel) rfl rfl (Nat.le_of_ble_eq_true rfl) dX5_read_16 (fun H locs hP9 hD9 hS9 => ?_)
  clear hP hD hS
  obtain ⟨hP, hD⟩ := rgS23_2fb16fa (e := (a0, .inr (4, [.ref a0_0, .ref a0_1, .ref a0_2, .ref a0_3, .int 0, .int (-1)]))) hP9 hD9 rfl
  have hS := hS9; clear hP9 hD9 hS9
  refine lv_aload_n hx hb dX5_read_19 rfl (lv_at hl 0 rfl) ?_
  refine va_get (D := (dC, dI)) (ci := 4) (v := .ref a0_0) (C := RX5) (T := TX5) (N := 6) hx hb hts inlX5 hown hK hP 0 rgL23_e3204fb rfl 0 (by decide) (hts (.fieldLink RX5 12 "ClosedUntil$TextReader" "tokens" "LClosedUntil$Tokens;") qw_98) (fun _ h9 => h9) rfl dX5_read_20 ?_
  refine lv_aload_n hx hb dX5_read_23 rfl (lv_at hl 1 rfl) ?_
  refine lv_iload_n hx hb dX5_read_24 rfl (lv_at hl 2 rfl) ?_
  have hPc := (rgP23_9038d89 hP)
  have hKc := (rgK20_2850022 hK)
  have hDc := (rgD23_5b0d7c4 hD)
  have hFc := freeW hDc hS hA
  refine va_callv (va_runVN (As := [.ref a1, .int a2]) (rest := []) ⟨hx, hb, hml, hown, hts⟩ (k_X7_start l dC dI g H.size (a0_0) (a1) (a2) (a0_0_0) (a0_0_1) (a0_0_2) (a0_0_3) (a0_0_4) (a0_0_5) (a0_0_6) (a0_0_7) (a0_0_0_c) (a0_0_0_f) (a1_c) (a1_f) (by omega) (by omega) (by omega) (by omega)) ⟨va_cnB 2 hts (gwC qw_223) rfl rfl rfl (nm_12 hN) (hts (.initialized RX7) qw_70) (by decide +kernel) ⟨Nat.le_of_ble_eq_true rfl, Nat.le_of_ble_eq_true rfl⟩, (hts (.instanceMethod yX7_start) qw_224), (hts (.selects RX7 yX7_start yX7_start) qw_225)⟩ ⟨fun a U g9 mk q => ⟨q.1, q.2.1, q.2.2.1, va_K.moved (u := U) (U := U.calling g9 mk a) (Vm.Alike.refl U.vm) q.2.2.2.1, q.2.2.2.2.1, Ev.bl q.2.2.2.2.2⟩, va_recv hK hP (ci := 6) (q0 := 1) rfl rgL23_77794b2, fun U hU hW => ⟨rfl, by rw [hU], atB hU hPc, va_K.moved hW.alike hKc, hDc.weaken (fun _ _ _ _ => trivial), hE.go hS hFc hU hW⟩⟩ rfl rfl hl.1 rfl (lv_room (Nat.le_of_ble_eq_true rfl)) dX5_read_25 ⟨Nat.le_of_ble_eq_true rfl, Nat.le_of_ble_eq_true rfl⟩) hS (fun q _ h => hFc q h) hFc (fun u22 t H1 locs ht hvm h_u22 hB hz1 hk1 hS => ?_)
  obtain ⟨za0_2_24, za0_3_25, za0_4_26, za0_5_27, za0_6_28, za0_7_29, hF30, hF31, hF32, hP1, hK1, hD1⟩ := hB
  have hK1 := va_K.moved hvm.symm hK1
  have hJ9 := rgJ23_4fa70d3 hP hD hk1 hFc (atH ht hP1) hD1
  clear hP hD hPc hKc hDc hFc hP1 hD1 hk1 hz1
  obtain ⟨hP, hD⟩ := hJ9
  clear hK1
  generalize H1 = H at hP hS ⊢
  refine W.widen (k := 0) (n := 0) (Nat.le_of_ble_eq_true rfl) (Nat.le_of_ble_eq_true rfl) ?_
  refine lv_iconst (v := 0) hx hb dX5_read_28 (by decide) ?_
  refine lv_istore (lv' := [(5, .int 0), (0, .ref a0), (1, .ref a1), (2, .int a2), (3, .ref a3), (4, .ref a4)]) hx hb dX5_read_29 hl (by decide) rfl (fun ls hl => ?_)
  have qcm1 : ((-1) : Int32).toInt = (-1) := by decide
  have qc0 : (0 : Int32).toInt = 0 := by decide
  refine wloop (fun n H locs ls => ∃ (l31_5 : Int32) (f31_0_4 : Int32) (f31_0_5 : Int32) (f31_1_3 : Int32) (f31_1_4 : Int32) (f31_1_5 : Int32) (f31_1_6 : Int64) (f31_1_7 : Int32) (w31_3 : Nat → Int64) (w31_4 : Nat → Int32) (w31_5 : Nat → Int32) (f31_7_0 : Int32) (f31_7_2 : Int32) (f31_7_4 : Int32) (f31_7_8 : Int32) (w31_8 : Nat → Int32) (w31_9 : Nat → Int32) (w31_10 : Nat → Int32) (w31_11 : Nat → Int32) (w31_12 : Nat → Int32) (w31_13 : Nat → Int32) (w31_14 : Nat → Int32) (w31_15 : Nat → Int32) (w31_17 : Nat → Int32) (w31_19 : Nat → Int32) (w31_20 : Nat → Int32) (r31 : va_W), n = (2147483647 - l31_5.toInt).toNat ∧ ((0 ≤ f31_0_4.toInt ∧ f31_0_4.toInt ≤ 36)) ∧ ((0 ≤ f31_1_3.toInt ∧ f31_1_3.toInt ≤ 1000)) ∧ ((0 ≤ f31_1_5.toInt ∧ f31_1_5.toInt ≤ 1000)) ∧ ((0 ≤ f31_7_0.toInt ∧ f31_7_0.toInt ≤ 8)) ∧ ((0 ≤ f31_7_2.toInt ∧ f31_7_2.toInt ≤ 4)) ∧ ((0 ≤ f31_7_4.toInt ∧ f31_7_4.toInt ≤ 24)) ∧ ((0 ≤ f31_7_8.toInt ∧ f31_7_8.toInt ≤ 12)) ∧ (RS g.2.2.2.2.1 rows r31) ∧ (0 ≤ l31_5.toInt) ∧ (NOk w31_4 w31_5 f31_0_4) ∧ (HOk w31_13 w31_14 f31_7_8) ∧ lv_has ls 6 [(5, .int l31_5), (0, .ref a0), (1, .ref a1), (2, .int a2), (3, .ref a3), (4, .ref a4)] ∧ va_P (dC, dI) vwCl (([(a0, .inr (4, [.ref a0_0, .ref a0_1, .ref a0_2, .ref a0_3, .int f31_0_4, .int f31_0_5])), (a0_0, .inr (6, [.ref a0_0_0, .ref a1, .int za0_2_24, .int f31_1_3, .int f31_1_4, .int f31_1_5, .long f31_1_6, .int f31_1_7])), (a0_0_0, .inl (a0_0_0_c, 12, .inr (.inl a0_0_0_f))), (a0_1, .inl (a0_1_c, 36, .inr (.inl w31_3))), (a0_2, .inl (a0_2_c, 36, .inl w31_4)), (a0_3, .inl (a0_3_c, 36, .inl w31_5)), (a1, .inl (a1_c, 1000, .inl a1_f)), (a3, .inr (0, [.int f31_7_0, .ref a3_1, .int f31_7_2, .ref a3_3, .int f31_7_4, .ref a3_5, .ref a3_6, .ref a3_7, .int f31_7_8, .ref a3_9, .ref a3_10, .ref a3_11, .ref a3_12, .ref a3_13])), (a3_1, .inl (a3_1_c, 8, .inl w31_8)), (a3_3, .inl (a3_3_c, 4, .inl w31_9)), (a3_5, .inl (a3_5_c, 24, .inl w31_10)), (a3_6, .inl (a3_6_c, 24, .inl w31_11)), (a3_7, .inl (a3_7_c, 24, .inl w31_12)), (a3_9, .inl (a3_9_c, 12, .inl w31_13)), (a3_10, .inl (a3_10_c, 12, .inl w31_14)), (a3_11, .inl (a3_11_c, 12, .inl w31_15)), (a3_12, .inl (a3_12_c, 12, .inr (.inr (.inr (.inr a3_12_f))))), (a3_13, .inl (a3_13_c, 12, .inl w31_17)), (a4, .inr (2, [.ref a4_0, .ref a4_1, .ref a4_2, .ref a4_3, .ref a4_4, .ref a4_5])), (a4_0, .inl (a4_0_c, 24, .inl w31_19)), (a4_1, .inl (a4_1_c, 8, .inl w31_20)), (a4_2, .inl (a4_2_c, 12, .inl za0_2_f_19)), (a4_3, .inl (a4_3_c, 12, .inl za0_3_f_20))] : va_W) ++ r31) H ∧ va_D A (([(a0, .inr (4, [.ref a0_0, .ref a0_1, .ref a0_2, .ref a0_3, .int f31_0_4, .int f31_0_5])), (a0_0, .inr (6, [.ref a0_0_0, .ref a1, .int za0_2_24, .int f31_1_3, .int f31_1_4, .int f31_1_5, .long f31_1_6, .int f31_1_7])), (a0_0_0, .inl (a0_0_0_c, 12, .inr (.inl a0_0_0_f))), (a0_1, .inl (a0_1_c, 36, .inr (.inl w31_3))), (a0_2, .inl (a0_2_c, 36, .inl w31_4)), (a0_3, .inl (a0_3_c, 36, .inl w31_5)), (a1, .inl (a1_c, 1000, .inl a1_f)), (a3, .inr (0, [.int f31_7_0, .ref a3_1, .int f31_7_2, .ref a3_3, .int f31_7_4, .ref a3_5, .ref a3_6, .ref a3_7, .int f31_7_8, .ref a3_9, .ref a3_10, .ref a3_11, .ref a3_12, .ref a3_13])), (a3_1, .inl (a3_1_c, 8, .inl w31_8)), (a3_3, .inl (a3_3_c, 4, .inl w31_9)), (a3_5, .inl (a3_5_c, 24, .inl w31_10)), (a3_6, .inl (a3_6_c, 24, .inl w31_11)), (a3_7, .inl (a3_7_c, 24, .inl w31_12)), (a3_9, .inl (a3_9_c, 12, .inl w31_13)), (a3_10, .inl (a3_10_c, 12, .inl w31_14)), (a3_11, .inl (a3_11_c, 12, .inl w31_15)), (a3_12, .inl (a3_12_c, 12, .inr (.inr (.inr (.inr a3_12_f))))), (a3_13, .inl (a3_13_c, 12, .inl w31_17)), (a4, .inr (2, [.ref a4_0, .ref a4_1, .ref a4_2, .ref a4_3, .ref a4_4, .ref a4_5])), (a4_0, .inl (a4_0_c, 24, .inl w31_19)), (a4_1, .inl (a4_1_c, 8, .inl w31_20)), (a4_2, .inl (a4_2_c, 12, .inl za0_2_f_19)), (a4_3, .inl (a4_3_c, 12, .inl za0_3_f_20))] : va_W) ++ r31) ∧ va_S A s.heap H locs) ?_ ((2147483647 - (0 : Int32).toInt).toNat) _ _ _ ⟨0, 0, (-1), za0_3_25, za0_4_26, za0_5_27, za0_6_28, za0_7_29, a0_1_f, a0_2_f, a0_3_f, za0_0_3, za0_2_4, za0_4_5, za0_8_6, a3_1_f, a3_3_f, a3_5_f, a3_6_f, a3_7_f, a3_9_f, a3_10_f, a3_11_f, a3_13_f, za0_0_f_17, za0_1_f_18, rows, rfl, (by omega), (by omega), (by omega), (by omega), (by omega), (by omega), (by omega), hRS, (by omega), (by first | assumption | exact NOk.nil (by decide)), (by first | assumption | exact HOk.nil (by omega)), lv_sub hl [0, 1, 2, 3, 4, 5] rfl, hP, hD, hS⟩
  intro n31 H locs ls hI ih31
  obtain ⟨l31_5, f31_0_4, f31_0_5, f31_1_3, f31_1_4, f31_1_5, f31_1_6, f31_1_7, w31_3, w31_4, w31_5, f31_7_0, f31_7_2, f31_7_4, f31_7_8, w31_8, w31_9, w31_10, w31_11, w31_12, w31_13, w31_14, w31_15, w31_17, w31_19, w31_20, r31, hn31, g_f31_0_4, g_f31_1_3, g_f31_1_5, g_f31_7_0, g_f31_7_2, g_f31_7_4, g_f31_7_8, g_r31, g_l31_5, gx31_0, gx31_1, hl, hP, hD, hS⟩ := hI
  have b_l31_5 := i32b l31_5
  have b_f31_0_4 := i32b f31_0_4
  have b_f31_0_5 := i32b f31_0_5
  have b_f31_1_3 := i32b f31_1_3
  have b_f31_1_4 := i32b f31_1_4
  have b_f31_1_5 := i32b f31_1_5
  have b_f31_1_7 := i32b f31_1_7
  have b_f31_7_0 := i32b f31_7_0
  have b_f31_7_2 := i32b f31_7_2
  have b_f31_7_4 := i32b f31_7_4
  have b_f31_7_8 := i32b f31_7_8
  have hRS := g_r31
  refine lv_iload hx hb dX5_read_31 (lv_at hl 0 rfl) ?_
  refine lv_sipush (v := 1000) hx hb dX5_read_33 (by decide) ?_
  refine lv_icmp_ge (tgt := 170) hx hb dX5_read_36 (by decide) (fun c36_33 => ?_) (fun c36_33 => ?_)
  · have c36_33 : 1000 ≤ l31_5.toInt := (cv_le (by decide) rfl).mp c36_33
    refine lv_aload_n hx hb dX5_read_170 rfl (lv_at hl 1 rfl) ?_
    refine va_get (D := (dC, dI)) (ci := 4) (v := .int f31_0_5) (C := RX5) (T := TX5) (N := 6) hx hb hts inlX5 hown hK hP 0 rgL23_e3204fb rfl 5 (by decide) (hts (.fieldLink RX5 41 "ClosedUntil$TextReader" "fault" "I") qw_97) (fun _ h9 => h9) rfl dX5_read_171 ?_
    refine lv_iconst (v := (-1)) hx hb dX5_read_174 (by decide) ?_
    refine lv_icmp_ne (tgt := 183) hx hb dX5_read_175 (by decide) (fun c175_34 => ?_) (fun c175_34 => ?_)
    · have c175_34 : ¬ (f31_0_5.toInt = (-1)) := mt (cv_eq rfl (by decide)).mpr c175_34
      refine lv_bipush (v := (-2)) hx hb dX5_read_183 (by decide) ?_
      refine lv_aload_n hx hb dX5_read_185 rfl (lv_at hl 1 rfl) ?_
      refine va_get (D := (dC, dI)) (ci := 4) (v := .int f31_0_5) (C := RX5) (T := TX5) (N := 6) hx hb hts inlX5 hown hK hP 0 rgL23_e3204fb rfl 5 (by decide) (hts (.fieldLink RX5 41 "ClosedUntil$TextReader" "fault" "I") qw_97) (fun _ h9 => h9) rfl dX5_read_186 ?_
      refine lv_isub hx hb dX5_read_189 ?_
      refine lv_topi (fun x35 e_x35 => ?_)
      try have e_x35 := ti_sub e_x35 (show ((-2) : Int32).toInt = (-2) by decide) rfl (by omega)
      refine W.widen (k := 0) (n := 0) (Nat.le_of_ble_eq_true rfl) (Nat.le_of_ble_eq_true rfl) ?_
      have hP9 := hP
      have hD9 := hD
      have hK9 := (rgK20_c4ba21f hK)
      have hf9_0 : (0 ≤ f31_0_4.toInt ∧ f31_0_4.toInt ≤ 36) := by omega
      have hf9_1 : (0 ≤ za0_2_24.toInt ∧ za0_2_24.toInt ≤ 1000) := by omega
      have hf9_2 : (0 ≤ f31_1_3.toInt ∧ f31_1_3.toInt ≤ 1000) := by omega
      have hf9_3 : (0 ≤ f31_1_5.toInt ∧ f31_1_5.toInt ≤ 1000) := by omega
      have hf9_4 : (0 ≤ f31_7_0.toInt ∧ f31_7_0.toInt ≤ 8) := by omega
      have hf9_5 : (0 ≤ f31_7_2.toInt ∧ f31_7_2.toInt ≤ 4) := by omega
      have hf9_6 : (0 ≤ f31_7_4.toInt ∧ f31_7_4.toInt ≤ 24) := by omega
      have hf9_7 : (0 ≤ f31_7_8.toInt ∧ f31_7_8.toInt ≤ 12) := by omega
      have hf9_8 : vr 0 5 za0_3_f_20 := hF21
      have hf9_9 : RS g.2.2.2.2.1 rows r31 := hRS
      have hf9_10 : (HOk w31_13 w31_14 f31_7_8) := by assumption
      exact W.iret (v := x35) hx hb hr (fun t ht hW => ⟨⟨x35, x35, rfl, rfl, f31_0_4, f31_0_5, za0_2_24, f31_1_3, f31_1_4, f31_1_5, f31_1_6, f31_1_7, w31_3, w31_4, w31_5, f31_7_0, f31_7_2, f31_7_4, f31_7_8, w31_8, w31_9, w31_10, w31_11, w31_12, w31_13, w31_14, w31_15, w31_17, w31_19, w31_20, za0_2_f_19, za0_3_f_20, r31, hf9_0, hf9_1, hf9_2, hf9_3, hf9_4, hf9_5, hf9_6, hf9_7, hf9_8, hf9_9, hf9_10, atB ht hP9, va_K.moved hW.alike hK9, hD9⟩, hS.F ht⟩) hS.2.2 dX5_read_190
    · have c175_34 : f31_0_5.toInt = (-1) := (cv_eq rfl (by decide)).mp c175_34
      refine lv_iload hx hb dX5_read_178 (lv_at hl 0 rfl) ?_
      refine lv_goto (tgt := 190) hx hb dX5_read_180 (by decide) ?_
      refine W.widen (k := 0) (n := 0) (Nat.le_of_ble_eq_true rfl) (Nat.le_of_ble_eq_true rfl) ?_
      have hP9 := hP
      have hD9 := hD
      have hK9 := (rgK20_c4ba21f hK)
      have hf9_0 : (0 ≤ f31_0_4.toInt ∧ f31_0_4.toInt ≤ 36) := by omega
      have hf9_1 : (0 ≤ za0_2_24.toInt ∧ za0_2_24.toInt ≤ 1000) := by omega
      have hf9_2 : (0 ≤ f31_1_3.toInt ∧ f31_1_3.toInt ≤ 1000) := by omega
      have hf9_3 : (0 ≤ f31_1_5.toInt ∧ f31_1_5.toInt ≤ 1000) := by omega
      have hf9_4 : (0 ≤ f31_7_0.toInt ∧ f31_7_0.toInt ≤ 8) := by omega
      have hf9_5 : (0 ≤ f31_7_2.toInt ∧ f31_7_2.toInt ≤ 4) := by omega
      have hf9_6 : (0 ≤ f31_7_4.toInt ∧ f31_7_4.toInt ≤ 24) := by omega
      have hf9_7 : (0 ≤ f31_7_8.toInt ∧ f31_7_8.toInt ≤ 12) := by omega
      have hf9_8 : vr 0 5 za0_3_f_20 := hF21
      have hf9_9 : RS g.2.2.2.2.1 rows r31 := hRS
      have hf9_10 : (HOk w31_13 w31_14 f31_7_8) := by assumption
      exact W.iret (v := l31_5) hx hb hr (fun t ht hW => ⟨⟨l31_5, l31_5, rfl, rfl, f31_0_4, f31_0_5, za0_2_24, f31_1_3, f31_1_4, f31_1_5, f31_1_6, f31_1_7, w31_3, w31_4, w31_5, f31_7_0, f31_7_2, f31_7_4, f31_7_8, w31_8, w31_9, w31_10, w31_11, w31_12, w31_13, w31_14, w31_15, w31_17, w31_19, w31_20, za0_2_f_19, za0_3_f_20, r31, hf9_0, hf9_1, hf9_2, hf9_3, hf9_4, hf9_5, hf9_6, hf9_7, hf9_8, hf9_9, hf9_10, atB ht hP9, va_K.moved hW.alike hK9, hD9⟩, hS.F ht⟩) hS.2.2 dX5_read_190
  · have c36_33 : ¬ (1000 ≤ l31_5.toInt) := mt (cv_le (by decide) rfl).mpr c36_33
    refine lv_aload_n hx hb dX5_read_39 rfl (lv_at hl 1 rfl) ?_
    refine va_get (D := (dC, dI)) (ci := 4) (v := .int f31_0_5) (C := RX5) (T := TX5) (N := 6) hx hb hts inlX5 hown hK hP 0 rgL23_e3204fb rfl 5 (by decide) (hts (.fieldLink RX5 41 "ClosedUntil$TextReader" "fault" "I") qw_97) (fun _ h9 => h9) rfl dX5_read_40 ?_
    refine lv_iconst (v := (-1)) hx hb dX5_read_43 (by decide) ?_
    refine lv_icmp_ne (tgt := 170) hx hb dX5_read_44 (by decide) (fun c44_36 => ?_) (fun c44_36 => ?_)
    · have c44_36 : ¬ (f31_0_5.toInt = (-1)) := mt (cv_eq rfl (by decide)).mpr c44_36
      refine lv_aload_n hx hb dX5_read_170 rfl (lv_at hl 1 rfl) ?_
      refine va_get (D := (dC, dI)) (ci := 4) (v := .int f31_0_5) (C := RX5) (T := TX5) (N := 6) hx hb hts inlX5 hown hK hP 0 rgL23_e3204fb rfl 5 (by decide) (hts (.fieldLink RX5 41 "ClosedUntil$TextReader" "fault" "I") qw_97) (fun _ h9 => h9) rfl dX5_read_171 ?_
      refine lv_iconst (v := (-1)) hx hb dX5_read_174 (by decide) ?_
      refine lv_icmp_ne (tgt := 183) hx hb dX5_read_175 (by decide) (fun c175_37 => ?_) (fun c175_37 => ?_)
      · have c175_37 : ¬ (f31_0_5.toInt = (-1)) := mt (cv_eq rfl (by decide)).mpr c175_37
        refine lv_bipush (v := (-2)) hx hb dX5_read_183 (by decide) ?_
        refine lv_aload_n hx hb dX5_read_185 rfl (lv_at hl 1 rfl) ?_
        refine va_get (D := (dC, dI)) (ci := 4) (v := .int f31_0_5) (C := RX5) (T := TX5) (N := 6) hx hb hts inlX5 hown hK hP 0 rgL23_e3204fb rfl 5 (by decide) (hts (.fieldLink RX5 41 "ClosedUntil$TextReader" "fault" "I") qw_97) (fun _ h9 => h9) rfl dX5_read_186 ?_
        refine lv_isub hx hb dX5_read_189 ?_
        refine lv_topi (fun x38 e_x38 => ?_)
        try have e_x38 := ti_sub e_x38 (show ((-2) : Int32).toInt = (-2) by decide) rfl (by omega)
        refine W.widen (k := 0) (n := 0) (Nat.le_of_ble_eq_true rfl) (Nat.le_of_ble_eq_true rfl) ?_
        have hP9 := hP
        have hD9 := hD
        have hK9 := (rgK20_c4ba21f hK)
        have hf9_0 : (0 ≤ f31_0_4.toInt ∧ f31_0_4.toInt ≤ 36) := by omega
        have hf9_1 : (0 ≤ za0_2_24.toInt ∧ za0_2_24.toInt ≤ 1000) := by omega
        have hf9_2 : (0 ≤ f31_1_3.toInt ∧ f31_1_3.toInt ≤ 1000) := by omega
        have hf9_3 : (0 ≤ f31_1_5.toInt ∧ f31_1_5.toInt ≤ 1000) := by omega
        have hf9_4 : (0 ≤ f31_7_0.toInt ∧ f31_7_0.toInt ≤ 8) := by omega
        have hf9_5 : (0 ≤ f31_7_2.toInt ∧ f31_7_2.toInt ≤ 4) := by omega
        have hf9_6 : (0 ≤ f31_7_4.toInt ∧ f31_7_4.toInt ≤ 24) := by omega
        have hf9_7 : (0 ≤ f31_7_8.toInt ∧ f31_7_8.toInt ≤ 12) := by omega
        have hf9_8 : vr 0 5 za0_3_f_20 := hF21
        have hf9_9 : RS g.2.2.2.2.1 rows r31 := hRS
        have hf9_10 : (HOk w31_13 w31_14 f31_7_8) := by assumption
        exact W.iret (v := x38) hx hb hr (fun t ht hW => ⟨⟨x38, x38, rfl, rfl, f31_0_4, f31_0_5, za0_2_24, f31_1_3, f31_1_4, f31_1_5, f31_1_6, f31_1_7, w31_3, w31_4, w31_5, f31_7_0, f31_7_2, f31_7_4, f31_7_8, w31_8, w31_9, w31_10, w31_11, w31_12, w31_13, w31_14, w31_15, w31_17, w31_19, w31_20, za0_2_f_19, za0_3_f_20, r31, hf9_0, hf9_1, hf9_2, hf9_3, hf9_4, hf9_5, hf9_6, hf9_7, hf9_8, hf9_9, hf9_10, atB ht hP9, va_K.moved hW.alike hK9, hD9⟩, hS.F ht⟩) hS.2.2 dX5_read_190
      · have c175_37 : f31_0_5.toInt = (-1) := (cv_eq rfl (by decide)).mp c175_37
        refine lv_iload hx hb dX5_read_178 (lv_at hl 0 rfl) ?_
        refine lv_goto (tgt := 190) hx hb dX5_read_180 (by decide) ?_
        refine W.widen (k := 0) (n := 0) (Nat.le_of_ble_eq_true rfl) (Nat.le_of_ble_eq_true rfl) ?_
        have hP9 := hP
        have hD9 := hD
        have hK9 := (rgK20_c4ba21f hK)
        have hf9_0 : (0 ≤ f31_0_4.toInt ∧ f31_0_4.toInt ≤ 36) := by omega
        have hf9_1 : (0 ≤ za0_2_24.toInt ∧ za0_2_24.toInt ≤ 1000) := by omega
        have hf9_2 : (0 ≤ f31_1_3.toInt ∧ f31_1_3.toInt ≤ 1000) := by omega
        have hf9_3 : (0 ≤ f31_1_5.toInt ∧ f31_1_5.toInt ≤ 1000) := by omega
        have hf9_4 : (0 ≤ f31_7_0.toInt ∧ f31_7_0.toInt ≤ 8) := by omega
        have hf9_5 : (0 ≤ f31_7_2.toInt ∧ f31_7_2.toInt ≤ 4) := by omega
        have hf9_6 : (0 ≤ f31_7_4.toInt ∧ f31_7_4.toInt ≤ 24) := by omega
        have hf9_7 : (0 ≤ f31_7_8.toInt ∧ f31_7_8.toInt ≤ 12) := by omega
        have hf9_8 : vr 0 5 za0_3_f_20 := hF21
        have hf9_9 : RS g.2.2.2.2.1 rows r31 := hRS
        have hf9_10 : (HOk w31_13 w31_14 f31_7_8) := by assumption
        exact W.iret (v := l31_5) hx hb hr (fun t ht hW => ⟨⟨l31_5, l31_5, rfl, rfl, f31_0_4, f31_0_5, za0_2_24, f31_1_3, f31_1_4, f31_1_5, f31_1_6, f31_1_7, w31_3, w31_4, w31_5, f31_7_0, f31_7_2, f31_7_4, f31_7_8, w31_8, w31_9, w31_10, w31_11, w31_12, w31_13, w31_14, w31_15, w31_17, w31_19, w31_20, za0_2_f_19, za0_3_f_20, r31, hf9_0, hf9_1, hf9_2, hf9_3, hf9_4, hf9_5, hf9_6, hf9_7, hf9_8, hf9_9, hf9_10, atB ht hP9, va_K.moved hW.alike hK9, hD9⟩, hS.F ht⟩) hS.2.2 dX5_read_190
    · have c44_36 : f31_0_5.toInt = (-1) := (cv_eq rfl (by decide)).mp c44_36
      refine lv_aload_n hx hb dX5_read_47 rfl (lv_at hl 1 rfl) ?_
      refine va_get (D := (dC, dI)) (ci := 4) (v := .ref a0_0) (C := RX5) (T := TX5) (N := 6) hx hb hts inlX5 hown hK hP 0 rgL23_e3204fb rfl 0 (by decide) (hts (.fieldLink RX5 12 "ClosedUntil$TextReader" "tokens" "LClosedUntil$Tokens;") qw_98) (fun _ h9 => h9) rfl dX5_read_48 ?_
      refine va_getN (D := (dC, dI)) (ci := 6) (v := .int f31_1_4) (C := RX7) (T := TX7) (N := 8) hx hb hts inlX7 hown hK hP 1 rgL23_77794b2 rfl 4 (by decide) (va_Nw.use rfl (nf_2 hN)) (fun _ h9 => h9) rfl dX5_read_51 ?_
      refine lv_bipush (v := 15) hx hb dX5_read_54 (by decide) ?_
      refine lv_icmp_eq (tgt := 170) hx hb dX5_read_56 (by decide) (fun c56_39 => ?_) (fun c56_39 => ?_)
      · have c56_39 : f31_1_4.toInt = 15 := (cv_eq rfl (by decide)).mp c56_39
        refine lv_aload_n hx hb dX5_read_170 rfl (lv_at hl 1 rfl) ?_
        refine va_get (D := (dC, dI)) (ci := 4) (v := .int f31_0_5) (C := RX5) (T := TX5) (N := 6) hx hb hts inlX5 hown hK hP 0 rgL23_e3204fb rfl 5 (by decide) (hts (.fieldLink RX5 41 "ClosedUntil$TextReader" "fault" "I") qw_97) (fun _ h9 => h9) rfl dX5_read_171 ?_
        refine lv_iconst (v := (-1)) hx hb dX5_read_174 (by decide) ?_
        refine lv_icmp_ne (tgt := 183) hx hb dX5_read_175 (by decide) (fun c175_40 => ?_) (fun c175_40 => ?_)
        · have c175_40 : ¬ (f31_0_5.toInt = (-1)) := mt (cv_eq rfl (by decide)).mpr c175_40
          refine lv_bipush (v := (-2)) hx hb dX5_read_183 (by decide) ?_
          refine lv_aload_n hx hb dX5_read_185 rfl (lv_at hl 1 rfl) ?_
          refine va_get (D := (dC, dI)) (ci := 4) (v := .int f31_0_5) (C := RX5) (T := TX5) (N := 6) hx hb hts inlX5 hown hK hP 0 rgL23_e3204fb rfl 5 (by decide) (hts (.fieldLink RX5 41 "ClosedUntil$TextReader" "fault" "I") qw_97) (fun _ h9 => h9) rfl dX5_read_186 ?_
          refine lv_isub hx hb dX5_read_189 ?_
          refine lv_topi (fun x41 e_x41 => ?_)
          try have e_x41 := ti_sub e_x41 (show ((-2) : Int32).toInt = (-2) by decide) rfl (by omega)
          refine W.widen (k := 0) (n := 0) (Nat.le_of_ble_eq_true rfl) (Nat.le_of_ble_eq_true rfl) ?_
          have hP9 := hP
          have hD9 := hD
          have hK9 := (rgK20_c4ba21f hK)
          have hf9_0 : (0 ≤ f31_0_4.toInt ∧ f31_0_4.toInt ≤ 36) := by omega
          have hf9_1 : (0 ≤ za0_2_24.toInt ∧ za0_2_24.toInt ≤ 1000) := by omega
          have hf9_2 : (0 ≤ f31_1_3.toInt ∧ f31_1_3.toInt ≤ 1000) := by omega
          have hf9_3 : (0 ≤ f31_1_5.toInt ∧ f31_1_5.toInt ≤ 1000) := by omega
          have hf9_4 : (0 ≤ f31_7_0.toInt ∧ f31_7_0.toInt ≤ 8) := by omega
          have hf9_5 : (0 ≤ f31_7_2.toInt ∧ f31_7_2.toInt ≤ 4) := by omega
          have hf9_6 : (0 ≤ f31_7_4.toInt ∧ f31_7_4.toInt ≤ 24) := by omega
          have hf9_7 : (0 ≤ f31_7_8.toInt ∧ f31_7_8.toInt ≤ 12) := by omega
          have hf9_8 : vr 0 5 za0_3_f_20 := hF21
          have hf9_9 : RS g.2.2.2.2.1 rows r31 := hRS
          have hf9_10 : (HOk w31_13 w31_14 f31_7_8) := by assumption
          exact W.iret (v := x41) hx hb hr (fun t ht hW => ⟨⟨x41, x41, rfl, rfl, f31_0_4, f31_0_5, za0_2_24, f31_1_3, f31_1_4, f31_1_5, f31_1_6, f31_1_7, w31_3, w31_4, w31_5, f31_7_0, f31_7_2, f31_7_4, f31_7_8, w31_8, w31_9, w31_10, w31_11, w31_12, w31_13, w31_14, w31_15, w31_17, w31_19, w31_20, za0_2_f_19, za0_3_f_20, r31, hf9_0, hf9_1, hf9_2, hf9_3, hf9_4, hf9_5, hf9_6, hf9_7, hf9_8, hf9_9, hf9_10, atB ht hP9, va_K.moved hW.alike hK9, hD9⟩, hS.F ht⟩) hS.2.2 dX5_read_190
        · have c175_40 : f31_0_5.toInt = (-1) := (cv_eq rfl (by decide)).mp c175_40
          refine lv_iload hx hb dX5_read_178 (lv_at hl 0 rfl) ?_
          refine lv_goto (tgt := 190) hx hb dX5_read_180 (by decide) ?_
          refine W.widen (k := 0) (n := 0) (Nat.le_of_ble_eq_true rfl) (Nat.le_of_ble_eq_true rfl) ?_
          have hP9 := hP
          have hD9 := hD
          have hK9 := (rgK20_c4ba21f hK)
          have hf9_0 : (0 ≤ f31_0_4.toInt ∧ f31_0_4.toInt ≤ 36) := by omega
          have hf9_1 : (0 ≤ za0_2_24.toInt ∧ za0_2_24.toInt ≤ 1000) := by omega
          have hf9_2 : (0 ≤ f31_1_3.toInt ∧ f31_1_3.toInt ≤ 1000) := by omega
          have hf9_3 : (0 ≤ f31_1_5.toInt ∧ f31_1_5.toInt ≤ 1000) := by omega
          have hf9_4 : (0 ≤ f31_7_0.toInt ∧ f31_7_0.toInt ≤ 8) := by omega
          have hf9_5 : (0 ≤ f31_7_2.toInt ∧ f31_7_2.toInt ≤ 4) := by omega
          have hf9_6 : (0 ≤ f31_7_4.toInt ∧ f31_7_4.toInt ≤ 24) := by omega
          have hf9_7 : (0 ≤ f31_7_8.toInt ∧ f31_7_8.toInt ≤ 12) := by omega
          have hf9_8 : vr 0 5 za0_3_f_20 := hF21
          have hf9_9 : RS g.2.2.2.2.1 rows r31 := hRS
          have hf9_10 : (HOk w31_13 w31_14 f31_7_8) := by assumption
          exact W.iret (v := l31_5) hx hb hr (fun t ht hW => ⟨⟨l31_5, l31_5, rfl, rfl, f31_0_4, f31_0_5, za0_2_24, f31_1_3, f31_1_4, f31_1_5, f31_1_6, f31_1_7, w31_3, w31_4, w31_5, f31_7_0, f31_7_2, f31_7_4, f31_7_8, w31_8, w31_9, w31_10, w31_11, w31_12, w31_13, w31_14, w31_15, w31_17, w31_19, w31_20, za0_2_f_19, za0_3_f_20, r31, hf9_0, hf9_1, hf9_2, hf9_3, hf9_4, hf9_5, hf9_6, hf9_7, hf9_8, hf9_9, hf9_10, atB ht hP9, va_K.moved hW.alike hK9, hD9⟩, hS.F ht⟩) hS.2.2 dX5_read_190
      · have c56_39 : ¬ (f31_1_4.toInt = 15) := mt (cv_eq rfl (by decide)).mpr c56_39
        refine lv_aload_n hx hb dX5_read_59 rfl (lv_at hl 1 rfl) ?_
        refine va_get (D := (dC, dI)) (ci := 4) (v := .ref a0_0) (C := RX5) (T := TX5) (N := 6) hx hb hts inlX5 hown hK hP 0 rgL23_e3204fb rfl 0 (by decide) (hts (.fieldLink RX5 12 "ClosedUntil$TextReader" "tokens" "LClosedUntil$Tokens;") qw_98) (fun _ h9 => h9) rfl dX5_read_60 ?_
        refine va_getN (D := (dC, dI)) (ci := 6) (v := .int f31_1_4) (C := RX7) (T := TX7) (N := 8) hx hb hts inlX7 hown hK hP 1 rgL23_77794b2 rfl 4 (by decide) (va_Nw.use rfl (nf_2 hN)) (fun _ h9 => h9) rfl dX5_read_63 ?_
        rcases (show f31_1_4.toInt = 0 ∨ f31_1_4.toInt = 1 ∨ f31_1_4.toInt = 2 ∨ f31_1_4.toInt = 3 ∨ f31_1_4.toInt = 4 ∨ f31_1_4.toInt = 5 ∨ f31_1_4.toInt = 6 ∨ f31_1_4.toInt = 7 ∨ f31_1_4.toInt = 8 ∨ (f31_1_4.toInt < 0 ∨ 8 < f31_1_4.toInt) by omega) with hq42 | hq42 | hq42 | hq42 | hq42 | hq42 | hq42 | hq42 | hq42 | hq42
        · refine lv_tableIn (off := 50) (tgt := 116) hx hb dX5_read_66 (by omega) (by omega) (by rw [hq42]; rfl) (by decide) ?_
          refine lv_aload_n hx hb dX5_read_116 rfl (lv_at hl 1 rfl) ?_
          refine lv_aload_n hx hb dX5_read_117 rfl (lv_at hl 4 rfl) ?_
          refine lv_aload hx hb dX5_read_118 (lv_at hl 5 rfl) ?_
          have hPc := (rgP23_2e0d0a7 hP)
          have hKc := (rgK20_87ff57a hK)
          have hDc := (rgD23_82a00b2 hD)
          have hFc := freeW hDc hS hA
          refine va_callv (va_runV (As := [.ref a3, .ref a4]) (rest := []) ⟨hx, hb, hml, hown, hts⟩ (k_X5_readPerson l dC dI g H.size (a0) (a3) (a4) (a0_0) (a0_1) (a0_2) (a0_3) (f31_0_4) (f31_0_5) (a0_0_0) (a1) (za0_2_24) (f31_1_3) (f31_1_4) (f31_1_5) (f31_1_6) (f31_1_7) (a0_0_0_c) (a0_0_0_f) (a1_c) (a1_f) (a0_1_c) (w31_3) (a0_2_c) (w31_4) (a0_3_c) (w31_5) (f31_7_0) (a3_1) (f31_7_2) (a3_3) (f31_7_4) (a3_5) (a3_6) (a3_7) (f31_7_8) (a3_9) (a3_10) (a3_11) (a3_12) (a3_13) (a3_1_c) (w31_8) (a4_0) (a4_1) (a4_2) (a4_3) (a4_4) (a4_5) (a4_1_c) (w31_20) (by omega) (by omega) (by omega) (by omega) (by omega) (by omega) (by omega) (by omega) (by assumption)) (cwV 2 hts (gwV qw_227 qw_228 qw_229 qw_100 qw_226) rfl rfl rfl (by decide +kernel) ⟨Nat.le_of_ble_eq_true rfl, Nat.le_of_ble_eq_true rfl⟩) ⟨fun a U g9 mk q => ⟨q.1, q.2.1, q.2.2.1, va_K.moved (u := U) (U := U.calling g9 mk a) (Vm.Alike.refl U.vm) q.2.2.2.1, q.2.2.2.2.1, Ev.bl q.2.2.2.2.2⟩, va_recv hK hP (ci := 4) (q0 := 0) rfl rgL23_e3204fb, fun U hU hW => ⟨rfl, by rw [hU], atB hU hPc, va_K.moved hW.alike hKc, hDc.weaken (fun _ _ _ _ => trivial), hE.go hS hFc hU hW⟩⟩ rfl rfl hl.1 rfl (lv_room (Nat.le_of_ble_eq_true rfl)) dX5_read_120 ⟨Nat.le_of_ble_eq_true rfl, Nat.le_of_ble_eq_true rfl⟩) hS (fun q _ h => hFc q h) hFc (fun u43 t H1 locs ht hvm h_u43 hB hz1 hk1 hS => ?_)
          obtain ⟨za0_4_45, za0_5_46, za0_0_3_47, za0_0_4_48, za0_0_5_49, za0_0_6_50, za0_0_7_51, za0_1_f_52, za0_2_f_53, za0_3_f_54, za1_0_55, za1_1_f_56, za2_1_f_57, hF58, hF59, hF60, hF61, hF62, hP1, hK1, hD1⟩ := hB
          have hK1 := va_K.moved hvm.symm hK1
          have hJ9 := rgJ23_16b4275 hP hD hk1 hFc (atH ht hP1) hD1
          clear hP hD hPc hKc hDc hFc hP1 hD1 hk1 hz1
          obtain ⟨hP, hD⟩ := hJ9
          clear hK1
          generalize H1 = H at hP hS ⊢
          refine W.widen (k := 0) (n := 0) (Nat.le_of_ble_eq_true rfl) (Nat.le_of_ble_eq_true rfl) ?_
          refine lv_goto (tgt := 164) hx hb dX5_read_123 (by decide) ?_
          obtain ⟨x63, e_x63⟩ : ∃ y : Int32, y = l31_5 + 1 := ⟨_, rfl⟩
          refine lv_iinc (v := x63) (lv' := [(5, .int x63), (0, .ref a0), (1, .ref a1), (2, .int a2), (3, .ref a3), (4, .ref a4)]) hx hb dX5_read_164 hl (k := 0) rfl (by rw [e_x63]; rfl) (by decide) rfl (fun ls hl => ?_)
          try have e_x63 := ti_add e_x63 rfl (show (1 : Int32).toInt = 1 by decide) (by omega)
          refine lv_goto (tgt := 31) hx hb dX5_read_167 (by decide) ?_
          exact ih31 ((2147483647 - x63.toInt).toNat) _ _ _ (by omega) ⟨x63, za0_4_45, za0_5_46, za0_0_3_47, za0_0_4_48, za0_0_5_49, za0_0_6_50, za0_0_7_51, za0_1_f_52, za0_2_f_53, za0_3_f_54, za1_0_55, f31_7_2, f31_7_4, f31_7_8, za1_1_f_56, w31_9, w31_10, w31_11, w31_12, w31_13, w31_14, w31_15, w31_17, w31_19, za2_1_f_57, r31, rfl, (by omega), (by omega), (by omega), (by omega), (by omega), (by omega), (by omega), hRS, (by omega), (by first | assumption | exact NOk.nil (by decide)), (by first | assumption | exact HOk.nil (by omega)), lv_sub hl [0, 1, 2, 3, 4, 5] rfl, hP, hD, hS⟩
        · refine lv_tableIn (off := 86) (tgt := 152) hx hb dX5_read_66 (by omega) (by omega) (by rw [hq42]; rfl) (by decide) ?_
          refine lv_aload_n hx hb dX5_read_152 rfl (lv_at hl 1 rfl) ?_
          refine lv_iconst (v := 1) hx hb dX5_read_153 (by decide) ?_
          refine lv_aload_n hx hb dX5_read_154 rfl (lv_at hl 1 rfl) ?_
          refine va_get (D := (dC, dI)) (ci := 4) (v := .ref a0_0) (C := RX5) (T := TX5) (N := 6) hx hb hts inlX5 hown hK hP 0 rgL23_e3204fb rfl 0 (by decide) (hts (.fieldLink RX5 12 "ClosedUntil$TextReader" "tokens" "LClosedUntil$Tokens;") qw_98) (fun _ h9 => h9) rfl dX5_read_155 ?_
          refine va_getN (D := (dC, dI)) (ci := 6) (v := .int f31_1_5) (C := RX7) (T := TX7) (N := 8) hx hb hts inlX7 hown hK hP 1 rgL23_77794b2 rfl 5 (by decide) (va_Nw.use rfl (nf_3 hN)) (fun _ h9 => h9) rfl dX5_read_158 ?_
          have qc1 : (1 : Int32).toInt = 1 := by decide
          have hPc := (rgP23_2392579 hP)
          have hKc := (rgK20_c4ba21f hK)
          have hDc := (rgD23_3f1b3fa hD)
          have hFc := freeW hDc hS hA
          refine va_callv (va_runV (As := [.int 1, .int f31_1_5]) (rest := []) ⟨hx, hb, hml, hown, hts⟩ (k_X5_fail l dC dI g H.size (a0) (1) (f31_1_5) (a0_0) (a0_1) (a0_2) (a0_3) (f31_0_4) (f31_0_5) (by omega) (by omega) (by omega)) (cwV 2 hts (gwV qw_105 qw_106 qw_107 qw_100 qw_104) rfl rfl rfl (by decide +kernel) ⟨Nat.le_of_ble_eq_true rfl, Nat.le_of_ble_eq_true rfl⟩) ⟨fun a U g9 mk q => ⟨q.1, q.2.1, q.2.2.1, va_K.moved (u := U) (U := U.calling g9 mk a) (Vm.Alike.refl U.vm) q.2.2.2.1, q.2.2.2.2.1, Ev.bl q.2.2.2.2.2⟩, va_recv hK hP (ci := 4) (q0 := 0) rfl rgL23_e3204fb, fun U hU hW => ⟨rfl, by rw [hU], atB hU hPc, va_K.moved hW.alike hKc, hDc.weaken (fun _ _ _ _ => trivial), hE.go hS hFc hU hW⟩⟩ rfl rfl hl.1 rfl (lv_room (Nat.le_of_ble_eq_true rfl)) dX5_read_161 ⟨Nat.le_of_ble_eq_true rfl, Nat.le_of_ble_eq_true rfl⟩) hS (fun q _ h => hFc q h) hFc (fun u64 t H1 locs ht hvm h_u64 hB hz1 hk1 hS => ?_)
          obtain ⟨za0_5_66, hF67, hP1, hK1, hD1⟩ := hB
          have hK1 := va_K.moved hvm.symm hK1
          have hJ9 := rgJ23_3ef9527 hP hD hk1 hFc (atH ht hP1) hD1
          clear hP hD hPc hKc hDc hFc hP1 hD1 hk1 hz1
          obtain ⟨hP, hD⟩ := hJ9
          clear hK1
          generalize H1 = H at hP hS ⊢
          refine W.widen (k := 0) (n := 0) (Nat.le_of_ble_eq_true rfl) (Nat.le_of_ble_eq_true rfl) ?_
          obtain ⟨x68, e_x68⟩ : ∃ y : Int32, y = l31_5 + 1 := ⟨_, rfl⟩
          refine lv_iinc (v := x68) (lv' := [(5, .int x68), (0, .ref a0), (1, .ref a1), (2, .int a2), (3, .ref a3), (4, .ref a4)]) hx hb dX5_read_164 hl (k := 0) rfl (by rw [e_x68]; rfl) (by decide) rfl (fun ls hl => ?_)
          try have e_x68 := ti_add e_x68 rfl (show (1 : Int32).toInt = 1 by decide) (by omega)
          refine lv_goto (tgt := 31) hx hb dX5_read_167 (by decide) ?_
          exact ih31 ((2147483647 - x68.toInt).toNat) _ _ _ (by omega) ⟨x68, f31_0_4, za0_5_66, f31_1_3, f31_1_4, f31_1_5, f31_1_6, f31_1_7, w31_3, w31_4, w31_5, f31_7_0, f31_7_2, f31_7_4, f31_7_8, w31_8, w31_9, w31_10, w31_11, w31_12, w31_13, w31_14, w31_15, w31_17, w31_19, w31_20, r31, rfl, (by omega), (by omega), (by omega), (by omega), (by omega), (by omega), (by omega), hRS, (by omega), (by first | assumption | exact NOk.nil (by decide)), (by first | assumption | exact HOk.nil (by omega)), lv_sub hl [0, 1, 2, 3, 4, 5] rfl, hP, hD, hS⟩
        · refine lv_tableIn (off := 86) (tgt := 152) hx hb dX5_read_66 (by omega) (by omega) (by rw [hq42]; rfl) (by decide) ?_
          refine lv_aload_n hx hb dX5_read_152 rfl (lv_at hl 1 rfl) ?_
          refine lv_iconst (v := 1) hx hb dX5_read_153 (by decide) ?_
          refine lv_aload_n hx hb dX5_read_154 rfl (lv_at hl 1 rfl) ?_
          refine va_get (D := (dC, dI)) (ci := 4) (v := .ref a0_0) (C := RX5) (T := TX5) (N := 6) hx hb hts inlX5 hown hK hP 0 rgL23_e3204fb rfl 0 (by decide) (hts (.fieldLink RX5 12 "ClosedUntil$TextReader" "tokens" "LClosedUntil$Tokens;") qw_98) (fun _ h9 => h9) rfl dX5_read_155 ?_
          refine va_getN (D := (dC, dI)) (ci := 6) (v := .int f31_1_5) (C := RX7) (T := TX7) (N := 8) hx hb hts inlX7 hown hK hP 1 rgL23_77794b2 rfl 5 (by decide) (va_Nw.use rfl (nf_3 hN)) (fun _ h9 => h9) rfl dX5_read_158 ?_
          have qc1 : (1 : Int32).toInt = 1 := by decide
          have hPc := (rgP23_2392579 hP)
          have hKc := (rgK20_c4ba21f hK)
          have hDc := (rgD23_3f1b3fa hD)
          have hFc := freeW hDc hS hA
          refine va_callv (va_runV (As := [.int 1, .int f31_1_5]) (rest := []) ⟨hx, hb, hml, hown, hts⟩ (k_X5_fail l dC dI g H.size (a0) (1) (f31_1_5) (a0_0) (a0_1) (a0_2) (a0_3) (f31_0_4) (f31_0_5) (by omega) (by omega) (by omega)) (cwV 2 hts (gwV qw_105 qw_106 qw_107 qw_100 qw_104) rfl rfl rfl (by decide +kernel) ⟨Nat.le_of_ble_eq_true rfl, Nat.le_of_ble_eq_true rfl⟩) ⟨fun a U g9 mk q => ⟨q.1, q.2.1, q.2.2.1, va_K.moved (u := U) (U := U.calling g9 mk a) (Vm.Alike.refl U.vm) q.2.2.2.1, q.2.2.2.2.1, Ev.bl q.2.2.2.2.2⟩, va_recv hK hP (ci := 4) (q0 := 0) rfl rgL23_e3204fb, fun U hU hW => ⟨rfl, by rw [hU], atB hU hPc, va_K.moved hW.alike hKc, hDc.weaken (fun _ _ _ _ => trivial), hE.go hS hFc hU hW⟩⟩ rfl rfl hl.1 rfl (lv_room (Nat.le_of_ble_eq_true rfl)) dX5_read_161 ⟨Nat.le_of_ble_eq_true rfl, Nat.le_of_ble_eq_true rfl⟩) hS (fun q _ h => hFc q h) hFc (fun u69 t H1 locs ht hvm h_u69 hB hz1 hk1 hS => ?_)
          obtain ⟨za0_5_71, hF72, hP1, hK1, hD1⟩ := hB
          have hK1 := va_K.moved hvm.symm hK1
          have hJ9 := rgJ23_3ef9527 hP hD hk1 hFc (atH ht hP1) hD1
          clear hP hD hPc hKc hDc hFc hP1 hD1 hk1 hz1
          obtain ⟨hP, hD⟩ := hJ9
          clear hK1
          generalize H1 = H at hP hS ⊢
          refine W.widen (k := 0) (n := 0) (Nat.le_of_ble_eq_true rfl) (Nat.le_of_ble_eq_true rfl) ?_
          obtain ⟨x73, e_x73⟩ : ∃ y : Int32, y = l31_5 + 1 := ⟨_, rfl⟩
          refine lv_iinc (v := x73) (lv' := [(5, .int x73), (0, .ref a0), (1, .ref a1), (2, .int a2), (3, .ref a3), (4, .ref a4)]) hx hb dX5_read_164 hl (k := 0) rfl (by rw [e_x73]; rfl) (by decide) rfl (fun ls hl => ?_)
          try have e_x73 := ti_add e_x73 rfl (show (1 : Int32).toInt = 1 by decide) (by omega)
          refine lv_goto (tgt := 31) hx hb dX5_read_167 (by decide) ?_
          exact ih31 ((2147483647 - x73.toInt).toNat) _ _ _ (by omega) ⟨x73, f31_0_4, za0_5_71, f31_1_3, f31_1_4, f31_1_5, f31_1_6, f31_1_7, w31_3, w31_4, w31_5, f31_7_0, f31_7_2, f31_7_4, f31_7_8, w31_8, w31_9, w31_10, w31_11, w31_12, w31_13, w31_14, w31_15, w31_17, w31_19, w31_20, r31, rfl, (by omega), (by omega), (by omega), (by omega), (by omega), (by omega), (by omega), hRS, (by omega), (by first | assumption | exact NOk.nil (by decide)), (by first | assumption | exact HOk.nil (by omega)), lv_sub hl [0, 1, 2, 3, 4, 5] rfl, hP, hD, hS⟩
        · refine lv_tableIn (off := 60) (tgt := 126) hx hb dX5_read_66 (by omega) (by omega) (by rw [hq42]; rfl) (by decide) ?_
          refine lv_aload_n hx hb dX5_read_126 rfl (lv_at hl 1 rfl) ?_
          refine lv_aload_n hx hb dX5_read_127 rfl (lv_at hl 4 rfl) ?_
          have hPc := (rgP23_f0e6431 hP)
          have hKc := (rgK20_7711532 hK)
          have hDc := (rgD23_6d0e63c hD)
          have hFc := freeW hDc hS hA
          refine va_callv (va_runV (As := [.ref a3]) (rest := []) ⟨hx, hb, hml, hown, hts⟩ (k_X5_readDeposit l dC dI g H.size (a0) (a3) (a0_0) (a0_1) (a0_2) (a0_3) (f31_0_4) (f31_0_5) (a0_0_0) (a1) (za0_2_24) (f31_1_3) (f31_1_4) (f31_1_5) (f31_1_6) (f31_1_7) (a0_0_0_c) (a0_0_0_f) (a1_c) (a1_f) (a0_1_c) (w31_3) (a0_2_c) (w31_4) (a0_3_c) (w31_5) (f31_7_0) (a3_1) (f31_7_2) (a3_3) (f31_7_4) (a3_5) (a3_6) (a3_7) (f31_7_8) (a3_9) (a3_10) (a3_11) (a3_12) (a3_13) (a3_3_c) (w31_9) (by omega) (by omega) (by omega) (by omega) (by omega) (by omega) (by omega) (by omega) (by assumption)) (cwV 1 hts (gwV qw_231 qw_232 qw_233 qw_100 qw_230) rfl rfl rfl (by decide +kernel) ⟨Nat.le_of_ble_eq_true rfl, Nat.le_of_ble_eq_true rfl⟩) ⟨fun a U g9 mk q => ⟨q.1, q.2.1, q.2.2.1, va_K.moved (u := U) (U := U.calling g9 mk a) (Vm.Alike.refl U.vm) q.2.2.2.1, q.2.2.2.2.1, Ev.bl q.2.2.2.2.2⟩, va_recv hK hP (ci := 4) (q0 := 0) rfl rgL23_e3204fb, fun U hU hW => ⟨rfl, by rw [hU], atB hU hPc, va_K.moved hW.alike hKc, hDc.weaken (fun _ _ _ _ => trivial), hE.go hS hFc hU hW⟩⟩ rfl rfl hl.1 rfl (lv_room (Nat.le_of_ble_eq_true rfl)) dX5_read_128 ⟨Nat.le_of_ble_eq_true rfl, Nat.le_of_ble_eq_true rfl⟩) hS (fun q _ h => hFc q h) hFc (fun u74 t H1 locs ht hvm h_u74 hB hz1 hk1 hS => ?_)
          obtain ⟨za0_4_76, za0_5_77, za0_0_3_78, za0_0_4_79, za0_0_5_80, za0_0_6_81, za0_0_7_82, za0_1_f_83, za0_2_f_84, za0_3_f_85, za1_2_86, za1_3_f_87, hF88, hF89, hF90, hF91, hF92, hP1, hK1, hD1⟩ := hB
          have hK1 := va_K.moved hvm.symm hK1
          have hJ9 := rgJ23_96891c3 hP hD hk1 hFc (atH ht hP1) hD1
          clear hP hD hPc hKc hDc hFc hP1 hD1 hk1 hz1
          obtain ⟨hP, hD⟩ := hJ9
          clear hK1
          generalize H1 = H at hP hS ⊢
          refine W.widen (k := 0) (n := 0) (Nat.le_of_ble_eq_true rfl) (Nat.le_of_ble_eq_true rfl) ?_
          refine lv_goto (tgt := 164) hx hb dX5_read_131 (by decide) ?_
          obtain ⟨x93, e_x93⟩ : ∃ y : Int32, y = l31_5 + 1 := ⟨_, rfl⟩
          refine lv_iinc (v := x93) (lv' := [(5, .int x93), (0, .ref a0), (1, .ref a1), (2, .int a2), (3, .ref a3), (4, .ref a4)]) hx hb dX5_read_164 hl (k := 0) rfl (by rw [e_x93]; rfl) (by decide) rfl (fun ls hl => ?_)
          try have e_x93 := ti_add e_x93 rfl (show (1 : Int32).toInt = 1 by decide) (by omega)
          refine lv_goto (tgt := 31) hx hb dX5_read_167 (by decide) ?_
          exact ih31 ((2147483647 - x93.toInt).toNat) _ _ _ (by omega) ⟨x93, za0_4_76, za0_5_77, za0_0_3_78, za0_0_4_79, za0_0_5_80, za0_0_6_81, za0_0_7_82, za0_1_f_83, za0_2_f_84, za0_3_f_85, f31_7_0, za1_2_86, f31_7_4, f31_7_8, w31_8, za1_3_f_87, w31_10, w31_11, w31_12, w31_13, w31_14, w31_15, w31_17, w31_19, w31_20, r31, rfl, (by omega), (by omega), (by omega), (by omega), (by omega), (by omega), (by omega), hRS, (by omega), (by first | assumption | exact NOk.nil (by decide)), (by first | assumption | exact HOk.nil (by omega)), lv_sub hl [0, 1, 2, 3, 4, 5] rfl, hP, hD, hS⟩
        · refine lv_tableIn (off := 68) (tgt := 134) hx hb dX5_read_66 (by omega) (by omega) (by rw [hq42]; rfl) (by decide) ?_
          refine lv_aload_n hx hb dX5_read_134 rfl (lv_at hl 1 rfl) ?_
          refine lv_aload_n hx hb dX5_read_135 rfl (lv_at hl 4 rfl) ?_
          refine lv_aload hx hb dX5_read_136 (lv_at hl 5 rfl) ?_
          have hPc := (rgP23_ff58871 hP)
          have hKc := (rgK20_70b63f3 hK)
          have hDc := (rgD23_cbe1d4f hD)
          have hFc := freeW hDc hS hA
          refine va_callv (va_runV (As := [.ref a3, .ref a4]) (rest := []) ⟨hx, hb, hml, hown, hts⟩ (k_X5_readPiece l dC dI g H.size (a0) (a3) (a4) (a0_0) (a0_1) (a0_2) (a0_3) (f31_0_4) (f31_0_5) (a0_0_0) (a1) (za0_2_24) (f31_1_3) (f31_1_4) (f31_1_5) (f31_1_6) (f31_1_7) (a0_0_0_c) (a0_0_0_f) (a1_c) (a1_f) (a0_1_c) (w31_3) (a0_2_c) (w31_4) (a0_3_c) (w31_5) (f31_7_0) (a3_1) (f31_7_2) (a3_3) (f31_7_4) (a3_5) (a3_6) (a3_7) (f31_7_8) (a3_9) (a3_10) (a3_11) (a3_12) (a3_13) (a3_5_c) (w31_10) (a3_6_c) (w31_11) (a3_7_c) (w31_12) (a4_0) (a4_1) (a4_2) (a4_3) (a4_4) (a4_5) (a4_0_c) (w31_19) (by omega) (by omega) (by omega) (by omega) (by omega) (by omega) (by omega) (by omega) (by assumption)) (cwV 2 hts (gwV qw_235 qw_236 qw_237 qw_100 qw_234) rfl rfl rfl (by decide +kernel) ⟨Nat.le_of_ble_eq_true rfl, Nat.le_of_ble_eq_true rfl⟩) ⟨fun a U g9 mk q => ⟨q.1, q.2.1, q.2.2.1, va_K.moved (u := U) (U := U.calling g9 mk a) (Vm.Alike.refl U.vm) q.2.2.2.1, q.2.2.2.2.1, Ev.bl q.2.2.2.2.2⟩, va_recv hK hP (ci := 4) (q0 := 0) rfl rgL23_e3204fb, fun U hU hW => ⟨rfl, by rw [hU], atB hU hPc, va_K.moved hW.alike hKc, hDc.weaken (fun _ _ _ _ => trivial), hE.go hS hFc hU hW⟩⟩ rfl rfl hl.1 rfl (lv_room (Nat.le_of_ble_eq_true rfl)) dX5_read_138 ⟨Nat.le_of_ble_eq_true rfl, Nat.le_of_ble_eq_true rfl⟩) hS (fun q _ h => hFc q h) hFc (fun u94 t H1 locs ht hvm h_u94 hB hz1 hk1 hS => ?_)
          obtain ⟨za0_4_96, za0_5_97, za0_0_3_98, za0_0_4_99, za0_0_5_100, za0_0_6_101, za0_0_7_102, za0_1_f_103, za0_2_f_104, za0_3_f_105, za1_4_106, za1_5_f_107, za1_6_f_108, za1_7_f_109, za2_0_f_110, hF111, hF112, hF113, hF114, hF115, hP1, hK1, hD1⟩ := hB
          have hK1 := va_K.moved hvm.symm hK1
          have hJ9 := rgJ23_d81d8ec hP hD hk1 hFc (atH ht hP1) hD1
          clear hP hD hPc hKc hDc hFc hP1 hD1 hk1 hz1
          obtain ⟨hP, hD⟩ := hJ9
          clear hK1
          generalize H1 = H at hP hS ⊢
          refine W.widen (k := 0) (n := 0) (Nat.le_of_ble_eq_true rfl) (Nat.le_of_ble_eq_true rfl) ?_
          refine lv_goto (tgt := 164) hx hb dX5_read_141 (by decide) ?_
          obtain ⟨x116, e_x116⟩ : ∃ y : Int32, y = l31_5 + 1 := ⟨_, rfl⟩
          refine lv_iinc (v := x116) (lv' := [(5, .int x116), (0, .ref a0), (1, .ref a1), (2, .int a2), (3, .ref a3), (4, .ref a4)]) hx hb dX5_read_164 hl (k := 0) rfl (by rw [e_x116]; rfl) (by decide) rfl (fun ls hl => ?_)
          try have e_x116 := ti_add e_x116 rfl (show (1 : Int32).toInt = 1 by decide) (by omega)
          refine lv_goto (tgt := 31) hx hb dX5_read_167 (by decide) ?_
          exact ih31 ((2147483647 - x116.toInt).toNat) _ _ _ (by omega) ⟨x116, za0_4_96, za0_5_97, za0_0_3_98, za0_0_4_99, za0_0_5_100, za0_0_6_101, za0_0_7_102, za0_1_f_103, za0_2_f_104, za0_3_f_105, f31_7_0, f31_7_2, za1_4_106, f31_7_8, w31_8, w31_9, za1_5_f_107, za1_6_f_108, za1_7_f_109, w31_13, w31_14, w31_15, w31_17, za2_0_f_110, w31_20, r31, rfl, (by omega), (by omega), (by omega), (by omega), (by omega), (by omega), (by omega), hRS, (by omega), (by first | assumption | exact NOk.nil (by decide)), (by first | assumption | exact HOk.nil (by omega)), lv_sub hl [0, 1, 2, 3, 4, 5] rfl, hP, hD, hS⟩
        · refine lv_tableIn (off := 86) (tgt := 152) hx hb dX5_read_66 (by omega) (by omega) (by rw [hq42]; rfl) (by decide) ?_
          refine lv_aload_n hx hb dX5_read_152 rfl (lv_at hl 1 rfl) ?_
          refine lv_iconst (v := 1) hx hb dX5_read_153 (by decide) ?_
          refine lv_aload_n hx hb dX5_read_154 rfl (lv_at hl 1 rfl) ?_
          refine va_get (D := (dC, dI)) (ci := 4) (v := .ref a0_0) (C := RX5) (T := TX5) (N := 6) hx hb hts inlX5 hown hK hP 0 rgL23_e3204fb rfl 0 (by decide) (hts (.fieldLink RX5 12 "ClosedUntil$TextReader" "tokens" "LClosedUntil$Tokens;") qw_98) (fun _ h9 => h9) rfl dX5_read_155 ?_
          refine va_getN (D := (dC, dI)) (ci := 6) (v := .int f31_1_5) (C := RX7) (T := TX7) (N := 8) hx hb hts inlX7 hown hK hP 1 rgL23_77794b2 rfl 5 (by decide) (va_Nw.use rfl (nf_3 hN)) (fun _ h9 => h9) rfl dX5_read_158 ?_
          have qc1 : (1 : Int32).toInt = 1 := by decide
          have hPc := (rgP23_2392579 hP)
          have hKc := (rgK20_c4ba21f hK)
          have hDc := (rgD23_3f1b3fa hD)
          have hFc := freeW hDc hS hA
          refine va_callv (va_runV (As := [.int 1, .int f31_1_5]) (rest := []) ⟨hx, hb, hml, hown, hts⟩ (k_X5_fail l dC dI g H.size (a0) (1) (f31_1_5) (a0_0) (a0_1) (a0_2) (a0_3) (f31_0_4) (f31_0_5) (by omega) (by omega) (by omega)) (cwV 2 hts (gwV qw_105 qw_106 qw_107 qw_100 qw_104) rfl rfl rfl (by decide +kernel) ⟨Nat.le_of_ble_eq_true rfl, Nat.le_of_ble_eq_true rfl⟩) ⟨fun a U g9 mk q => ⟨q.1, q.2.1, q.2.2.1, va_K.moved (u := U) (U := U.calling g9 mk a) (Vm.Alike.refl U.vm) q.2.2.2.1, q.2.2.2.2.1, Ev.bl q.2.2.2.2.2⟩, va_recv hK hP (ci := 4) (q0 := 0) rfl rgL23_e3204fb, fun U hU hW => ⟨rfl, by rw [hU], atB hU hPc, va_K.moved hW.alike hKc, hDc.weaken (fun _ _ _ _ => trivial), hE.go hS hFc hU hW⟩⟩ rfl rfl hl.1 rfl (lv_room (Nat.le_of_ble_eq_true rfl)) dX5_read_161 ⟨Nat.le_of_ble_eq_true rfl, Nat.le_of_ble_eq_true rfl⟩) hS (fun q _ h => hFc q h) hFc (fun u117 t H1 locs ht hvm h_u117 hB hz1 hk1 hS => ?_)
          obtain ⟨za0_5_119, hF120, hP1, hK1, hD1⟩ := hB
          have hK1 := va_K.moved hvm.symm hK1
          have hJ9 := rgJ23_3ef9527 hP hD hk1 hFc (atH ht hP1) hD1
          clear hP hD hPc hKc hDc hFc hP1 hD1 hk1 hz1
          obtain ⟨hP, hD⟩ := hJ9
          clear hK1
          generalize H1 = H at hP hS ⊢
          refine W.widen (k := 0) (n := 0) (Nat.le_of_ble_eq_true rfl) (Nat.le_of_ble_eq_true rfl) ?_
          obtain ⟨x121, e_x121⟩ : ∃ y : Int32, y = l31_5 + 1 := ⟨_, rfl⟩
          refine lv_iinc (v := x121) (lv' := [(5, .int x121), (0, .ref a0), (1, .ref a1), (2, .int a2), (3, .ref a3), (4, .ref a4)]) hx hb dX5_read_164 hl (k := 0) rfl (by rw [e_x121]; rfl) (by decide) rfl (fun ls hl => ?_)
          try have e_x121 := ti_add e_x121 rfl (show (1 : Int32).toInt = 1 by decide) (by omega)
          refine lv_goto (tgt := 31) hx hb dX5_read_167 (by decide) ?_
          exact ih31 ((2147483647 - x121.toInt).toNat) _ _ _ (by omega) ⟨x121, f31_0_4, za0_5_119, f31_1_3, f31_1_4, f31_1_5, f31_1_6, f31_1_7, w31_3, w31_4, w31_5, f31_7_0, f31_7_2, f31_7_4, f31_7_8, w31_8, w31_9, w31_10, w31_11, w31_12, w31_13, w31_14, w31_15, w31_17, w31_19, w31_20, r31, rfl, (by omega), (by omega), (by omega), (by omega), (by omega), (by omega), (by omega), hRS, (by omega), (by first | assumption | exact NOk.nil (by decide)), (by first | assumption | exact HOk.nil (by omega)), lv_sub hl [0, 1, 2, 3, 4, 5] rfl, hP, hD, hS⟩
        · refine lv_tableIn (off := 86) (tgt := 152) hx hb dX5_read_66 (by omega) (by omega) (by rw [hq42]; rfl) (by decide) ?_
          refine lv_aload_n hx hb dX5_read_152 rfl (lv_at hl 1 rfl) ?_
          refine lv_iconst (v := 1) hx hb dX5_read_153 (by decide) ?_
          refine lv_aload_n hx hb dX5_read_154 rfl (lv_at hl 1 rfl) ?_
          refine va_get (D := (dC, dI)) (ci := 4) (v := .ref a0_0) (C := RX5) (T := TX5) (N := 6) hx hb hts inlX5 hown hK hP 0 rgL23_e3204fb rfl 0 (by decide) (hts (.fieldLink RX5 12 "ClosedUntil$TextReader" "tokens" "LClosedUntil$Tokens;") qw_98) (fun _ h9 => h9) rfl dX5_read_155 ?_
          refine va_getN (D := (dC, dI)) (ci := 6) (v := .int f31_1_5) (C := RX7) (T := TX7) (N := 8) hx hb hts inlX7 hown hK hP 1 rgL23_77794b2 rfl 5 (by decide) (va_Nw.use rfl (nf_3 hN)) (fun _ h9 => h9) rfl dX5_read_158 ?_
          have qc1 : (1 : Int32).toInt = 1 := by decide
          have hPc := (rgP23_2392579 hP)
          have hKc := (rgK20_c4ba21f hK)
          have hDc := (rgD23_3f1b3fa hD)
          have hFc := freeW hDc hS hA
          refine va_callv (va_runV (As := [.int 1, .int f31_1_5]) (rest := []) ⟨hx, hb, hml, hown, hts⟩ (k_X5_fail l dC dI g H.size (a0) (1) (f31_1_5) (a0_0) (a0_1) (a0_2) (a0_3) (f31_0_4) (f31_0_5) (by omega) (by omega) (by omega)) (cwV 2 hts (gwV qw_105 qw_106 qw_107 qw_100 qw_104) rfl rfl rfl (by decide +kernel) ⟨Nat.le_of_ble_eq_true rfl, Nat.le_of_ble_eq_true rfl⟩) ⟨fun a U g9 mk q => ⟨q.1, q.2.1, q.2.2.1, va_K.moved (u := U) (U := U.calling g9 mk a) (Vm.Alike.refl U.vm) q.2.2.2.1, q.2.2.2.2.1, Ev.bl q.2.2.2.2.2⟩, va_recv hK hP (ci := 4) (q0 := 0) rfl rgL23_e3204fb, fun U hU hW => ⟨rfl, by rw [hU], atB hU hPc, va_K.moved hW.alike hKc, hDc.weaken (fun _ _ _ _ => trivial), hE.go hS hFc hU hW⟩⟩ rfl rfl hl.1 rfl (lv_room (Nat.le_of_ble_eq_true rfl)) dX5_read_161 ⟨Nat.le_of_ble_eq_true rfl, Nat.le_of_ble_eq_true rfl⟩) hS (fun q _ h => hFc q h) hFc (fun u122 t H1 locs ht hvm h_u122 hB hz1 hk1 hS => ?_)
          obtain ⟨za0_5_124, hF125, hP1, hK1, hD1⟩ := hB
          have hK1 := va_K.moved hvm.symm hK1
          have hJ9 := rgJ23_3ef9527 hP hD hk1 hFc (atH ht hP1) hD1
          clear hP hD hPc hKc hDc hFc hP1 hD1 hk1 hz1
          obtain ⟨hP, hD⟩ := hJ9
          clear hK1
          generalize H1 = H at hP hS ⊢
          refine W.widen (k := 0) (n := 0) (Nat.le_of_ble_eq_true rfl) (Nat.le_of_ble_eq_true rfl) ?_
          obtain ⟨x126, e_x126⟩ : ∃ y : Int32, y = l31_5 + 1 := ⟨_, rfl⟩
          refine lv_iinc (v := x126) (lv' := [(5, .int x126), (0, .ref a0), (1, .ref a1), (2, .int a2), (3, .ref a3), (4, .ref a4)]) hx hb dX5_read_164 hl (k := 0) rfl (by rw [e_x126]; rfl) (by decide) rfl (fun ls hl => ?_)
          try have e_x126 := ti_add e_x126 rfl (show (1 : Int32).toInt = 1 by decide) (by omega)
          refine lv_goto (tgt := 31) hx hb dX5_read_167 (by decide) ?_
          exact ih31 ((2147483647 - x126.toInt).toNat) _ _ _ (by omega) ⟨x126, f31_0_4, za0_5_124, f31_1_3, f31_1_4, f31_1_5, f31_1_6, f31_1_7, w31_3, w31_4, w31_5, f31_7_0, f31_7_2, f31_7_4, f31_7_8, w31_8, w31_9, w31_10, w31_11, w31_12, w31_13, w31_14, w31_15, w31_17, w31_19, w31_20, r31, rfl, (by omega), (by omega), (by omega), (by omega), (by omega), (by omega), (by omega), hRS, (by omega), (by first | assumption | exact NOk.nil (by decide)), (by first | assumption | exact HOk.nil (by omega)), lv_sub hl [0, 1, 2, 3, 4, 5] rfl, hP, hD, hS⟩
        · refine lv_tableIn (off := 86) (tgt := 152) hx hb dX5_read_66 (by omega) (by omega) (by rw [hq42]; rfl) (by decide) ?_
          refine lv_aload_n hx hb dX5_read_152 rfl (lv_at hl 1 rfl) ?_
          refine lv_iconst (v := 1) hx hb dX5_read_153 (by decide) ?_
          refine lv_aload_n hx hb dX5_read_154 rfl (lv_at hl 1 rfl) ?_
          refine va_get (D := (dC, dI)) (ci := 4) (v := .ref a0_0) (C := RX5) (T := TX5) (N := 6) hx hb hts inlX5 hown hK hP 0 rgL23_e3204fb rfl 0 (by decide) (hts (.fieldLink RX5 12 "ClosedUntil$TextReader" "tokens" "LClosedUntil$Tokens;") qw_98) (fun _ h9 => h9) rfl dX5_read_155 ?_
          refine va_getN (D := (dC, dI)) (ci := 6) (v := .int f31_1_5) (C := RX7) (T := TX7) (N := 8) hx hb hts inlX7 hown hK hP 1 rgL23_77794b2 rfl 5 (by decide) (va_Nw.use rfl (nf_3 hN)) (fun _ h9 => h9) rfl dX5_read_158 ?_
          have qc1 : (1 : Int32).toInt = 1 := by decide
          have hPc := (rgP23_2392579 hP)
          have hKc := (rgK20_c4ba21f hK)
          have hDc := (rgD23_3f1b3fa hD)
          have hFc := freeW hDc hS hA
          refine va_callv (va_runV (As := [.int 1, .int f31_1_5]) (rest := []) ⟨hx, hb, hml, hown, hts⟩ (k_X5_fail l dC dI g H.size (a0) (1) (f31_1_5) (a0_0) (a0_1) (a0_2) (a0_3) (f31_0_4) (f31_0_5) (by omega) (by omega) (by omega)) (cwV 2 hts (gwV qw_105 qw_106 qw_107 qw_100 qw_104) rfl rfl rfl (by decide +kernel) ⟨Nat.le_of_ble_eq_true rfl, Nat.le_of_ble_eq_true rfl⟩) ⟨fun a U g9 mk q => ⟨q.1, q.2.1, q.2.2.1, va_K.moved (u := U) (U := U.calling g9 mk a) (Vm.Alike.refl U.vm) q.2.2.2.1, q.2.2.2.2.1, Ev.bl q.2.2.2.2.2⟩, va_recv hK hP (ci := 4) (q0 := 0) rfl rgL23_e3204fb, fun U hU hW => ⟨rfl, by rw [hU], atB hU hPc, va_K.moved hW.alike hKc, hDc.weaken (fun _ _ _ _ => trivial), hE.go hS hFc hU hW⟩⟩ rfl rfl hl.1 rfl (lv_room (Nat.le_of_ble_eq_true rfl)) dX5_read_161 ⟨Nat.le_of_ble_eq_true rfl, Nat.le_of_ble_eq_true rfl⟩) hS (fun q _ h => hFc q h) hFc (fun u127 t H1 locs ht hvm h_u127 hB hz1 hk1 hS => ?_)
          obtain ⟨za0_5_129, hF130, hP1, hK1, hD1⟩ := hB
          have hK1 := va_K.moved hvm.symm hK1
          have hJ9 := rgJ23_3ef9527 hP hD hk1 hFc (atH ht hP1) hD1
          clear hP hD hPc hKc hDc hFc hP1 hD1 hk1 hz1
          obtain ⟨hP, hD⟩ := hJ9
          clear hK1
          generalize H1 = H at hP hS ⊢
          refine W.widen (k := 0) (n := 0) (Nat.le_of_ble_eq_true rfl) (Nat.le_of_ble_eq_true rfl) ?_
          obtain ⟨x131, e_x131⟩ : ∃ y : Int32, y = l31_5 + 1 := ⟨_, rfl⟩
          refine lv_iinc (v := x131) (lv' := [(5, .int x131), (0, .ref a0), (1, .ref a1), (2, .int a2), (3, .ref a3), (4, .ref a4)]) hx hb dX5_read_164 hl (k := 0) rfl (by rw [e_x131]; rfl) (by decide) rfl (fun ls hl => ?_)
          try have e_x131 := ti_add e_x131 rfl (show (1 : Int32).toInt = 1 by decide) (by omega)
          refine lv_goto (tgt := 31) hx hb dX5_read_167 (by decide) ?_
          exact ih31 ((2147483647 - x131.toInt).toNat) _ _ _ (by omega) ⟨x131, f31_0_4, za0_5_129, f31_1_3, f31_1_4, f31_1_5, f31_1_6, f31_1_7, w31_3, w31_4, w31_5, f31_7_0, f31_7_2, f31_7_4, f31_7_8, w31_8, w31_9, w31_10, w31_11, w31_12, w31_13, w31_14, w31_15, w31_17, w31_19, w31_20, r31, rfl, (by omega), (by omega), (by omega), (by omega), (by omega), (by omega), (by omega), hRS, (by omega), (by first | assumption | exact NOk.nil (by decide)), (by first | assumption | exact HOk.nil (by omega)), lv_sub hl [0, 1, 2, 3, 4, 5] rfl, hP, hD, hS⟩
        · refine lv_tableIn (off := 78) (tgt := 144) hx hb dX5_read_66 (by omega) (by omega) (by rw [hq42]; rfl) (by decide) ?_
          refine lv_aload_n hx hb dX5_read_144 rfl (lv_at hl 1 rfl) ?_
          refine lv_aload_n hx hb dX5_read_145 rfl (lv_at hl 4 rfl) ?_
          have hPc := (rgP23_ba2c3e5 hP)
          have hKc := (rgK20_4bfb8a7 hK)
          have hDc := (rgD23_acf8747 hD)
          have hFc := freeW hDc hS hA
          refine va_callv (va_runV (As := [.ref a3]) (rest := []) ⟨hx, hb, hml, hown, hts⟩ (k_X5_readClose l dC dI g H.size (a0) (a3) (a0_0) (a0_1) (a0_2) (a0_3) (f31_0_4) (f31_0_5) (a0_0_0) (a1) (za0_2_24) (f31_1_3) (f31_1_4) (f31_1_5) (f31_1_6) (f31_1_7) (a0_0_0_c) (a0_0_0_f) (a1_c) (a1_f) (a0_1_c) (w31_3) (a0_2_c) (w31_4) (a0_3_c) (w31_5) (f31_7_0) (a3_1) (f31_7_2) (a3_3) (f31_7_4) (a3_5) (a3_6) (a3_7) (f31_7_8) (a3_9) (a3_10) (a3_11) (a3_12) (a3_13) (a3_9_c) (w31_13) (a3_10_c) (w31_14) (a3_11_c) (w31_15) (a3_12_c) (a3_12_f) (a3_13_c) (w31_17) (r31) (by omega) (by omega) (by omega) (by omega) (by omega) (by omega) (by omega) (by omega) (RS.gr hRS h_a3_12_f) (by assumption) (by assumption)) (cwV 1 hts (gwV qw_239 qw_240 qw_241 qw_100 qw_238) rfl rfl rfl (by decide +kernel) ⟨Nat.le_of_ble_eq_true rfl, Nat.le_of_ble_eq_true rfl⟩) ⟨fun a U g9 mk q => ⟨q.1, q.2.1, q.2.2.1, va_K.moved (u := U) (U := U.calling g9 mk a) (Vm.Alike.refl U.vm) q.2.2.2.1, q.2.2.2.2.1, Ev.bl q.2.2.2.2.2⟩, va_recv hK hP (ci := 4) (q0 := 0) rfl rgL23_e3204fb, fun U hU hW => ⟨rfl, by rw [hU], atB hU hPc, va_K.moved hW.alike hKc, hDc.weaken (fun _ _ _ _ => trivial), hE.go hS hFc hU hW⟩⟩ rfl rfl hl.1 rfl (lv_room (Nat.le_of_ble_eq_true rfl)) dX5_read_146 ⟨Nat.le_of_ble_eq_true rfl, Nat.le_of_ble_eq_true rfl⟩) hS (fun q _ h => hFc q h) hFc (fun u132 t H1 locs ht hvm h_u132 hB hz1 hk1 hS => ?_)
          obtain ⟨za0_5_134, za0_0_3_135, za0_0_4_136, za0_0_5_137, za0_0_6_138, za0_0_7_139, za1_8_140, za1_9_f_141, za1_10_f_142, za1_11_f_143, za1_13_f_144, zrows_145, hF146, hF147, hF148, hF149, hF150, hP1, hK1, hD1⟩ := hB
          have hK1 := va_K.moved hvm.symm hK1
          have hJ9 := rgJ23_f082ab0 hP hD hk1 hFc (atH ht hP1) hD1
          clear hP hD hPc hKc hDc hFc hP1 hD1 hk1 hz1
          obtain ⟨hP, hD⟩ := hJ9
          clear hK1
          generalize H1 = H at hP hS ⊢
          refine W.widen (k := 0) (n := 0) (Nat.le_of_ble_eq_true rfl) (Nat.le_of_ble_eq_true rfl) ?_
          have hRS := RS.tr hRS hF149
          refine lv_goto (tgt := 164) hx hb dX5_read_149 (by decide) ?_
          obtain ⟨x151, e_x151⟩ : ∃ y : Int32, y = l31_5 + 1 := ⟨_, rfl⟩
          refine lv_iinc (v := x151) (lv' := [(5, .int x151), (0, .ref a0), (1, .ref a1), (2, .int a2), (3, .ref a3), (4, .ref a4)]) hx hb dX5_read_164 hl (k := 0) rfl (by rw [e_x151]; rfl) (by decide) rfl (fun ls hl => ?_)
          try have e_x151 := ti_add e_x151 rfl (show (1 : Int32).toInt = 1 by decide) (by omega)
          refine lv_goto (tgt := 31) hx hb dX5_read_167 (by decide) ?_
          exact ih31 ((2147483647 - x151.toInt).toNat) _ _ _ (by omega) ⟨x151, f31_0_4, za0_5_134, za0_0_3_135, za0_0_4_136, za0_0_5_137, za0_0_6_138, za0_0_7_139, w31_3, w31_4, w31_5, f31_7_0, f31_7_2, f31_7_4, za1_8_140, w31_8, w31_9, w31_10, w31_11, w31_12, za1_9_f_141, za1_10_f_142, za1_11_f_143, za1_13_f_144, w31_19, w31_20, zrows_145, rfl, (by omega), (by omega), (by omega), (by omega), (by omega), (by omega), (by omega), hRS, (by omega), (by first | assumption | exact NOk.nil (by decide)), (by first | assumption | exact HOk.nil (by omega)), lv_sub hl [0, 1, 2, 3, 4, 5] rfl, hP, hD, hS⟩
        · refine lv_tableOut (tgt := 152) hx hb dX5_read_66 hq42 (by decide) ?_
          refine lv_aload_n hx hb dX5_read_152 rfl (lv_at hl 1 rfl) ?_
          refine lv_iconst (v := 1) hx hb dX5_read_153 (by decide) ?_
          refine lv_aload_n hx hb dX5_read_154 rfl (lv_at hl 1 rfl) ?_
          refine va_get (D := (dC, dI)) (ci := 4) (v := .ref a0_0) (C := RX5) (T := TX5) (N := 6) hx hb hts inlX5 hown hK hP 0 rgL23_e3204fb rfl 0 (by decide) (hts (.fieldLink RX5 12 "ClosedUntil$TextReader" "tokens" "LClosedUntil$Tokens;") qw_98) (fun _ h9 => h9) rfl dX5_read_155 ?_
          refine va_getN (D := (dC, dI)) (ci := 6) (v := .int f31_1_5) (C := RX7) (T := TX7) (N := 8) hx hb hts inlX7 hown hK hP 1 rgL23_77794b2 rfl 5 (by decide) (va_Nw.use rfl (nf_3 hN)) (fun _ h9 => h9) rfl dX5_read_158 ?_
          have qc1 : (1 : Int32).toInt = 1 := by decide
          have hPc := (rgP23_2392579 hP)
          have hKc := (rgK20_c4ba21f hK)
          have hDc := (rgD23_3f1b3fa hD)
          have hFc := freeW hDc hS hA
          refine va_callv (va_runV (As := [.int 1, .int f31_1_5]) (rest := []) ⟨hx, hb, hml, hown, hts⟩ (k_X5_fail l dC dI g H.size (a0) (1) (f31_1_5) (a0_0) (a0_1) (a0_2) (a0_3) (f31_0_4) (f31_0_5) (by omega) (by omega) (by omega)) (cwV 2 hts (gwV qw_105 qw_106 qw_107 qw_100 qw_104) rfl rfl rfl (by decide +kernel) ⟨Nat.le_of_ble_eq_true rfl, Nat.le_of_ble_eq_true rfl⟩) ⟨fun a U g9 mk q => ⟨q.1, q.2.1, q.2.2.1, va_K.moved (u := U) (U := U.calling g9 mk a) (Vm.Alike.refl U.vm) q.2.2.2.1, q.2.2.2.2.1, Ev.bl q.2.2.2.2.2⟩, va_recv hK hP (ci := 4) (q0 := 0) rfl rgL23_e3204fb, fun U hU hW => ⟨rfl, by rw [hU], atB hU hPc, va_K.moved hW.alike hKc, hDc.weaken (fun _ _ _ _ => trivial), hE.go hS hFc hU hW⟩⟩ rfl rfl hl.1 rfl (lv_room (Nat.le_of_ble_eq_true rfl)) dX5_read_161 ⟨Nat.le_of_ble_eq_true rfl, Nat.le_of_ble_eq_true rfl⟩) hS (fun q _ h => hFc q h) hFc (fun u152 t H1 locs ht hvm h_u152 hB hz1 hk1 hS => ?_)
          obtain ⟨za0_5_154, hF155, hP1, hK1, hD1⟩ := hB
          have hK1 := va_K.moved hvm.symm hK1
          have hJ9 := rgJ23_3ef9527 hP hD hk1 hFc (atH ht hP1) hD1
          clear hP hD hPc hKc hDc hFc hP1 hD1 hk1 hz1
          obtain ⟨hP, hD⟩ := hJ9
          clear hK1
          generalize H1 = H at hP hS ⊢
          refine W.widen (k := 0) (n := 0) (Nat.le_of_ble_eq_true rfl) (Nat.le_of_ble_eq_true rfl) ?_
          obtain ⟨x156, e_x156⟩ : ∃ y : Int32, y = l31_5 + 1 := ⟨_, rfl⟩
          refine lv_iinc (v := x156) (lv' := [(5, .int x156), (0, .ref a0), (1, .ref a1), (2, .int a2), (3, .ref a3), (4, .ref a4)]) hx hb dX5_read_164 hl (k := 0) rfl (by rw [e_x156]; rfl) (by decide) rfl (fun ls hl => ?_)
          try have e_x156 := ti_add e_x156 rfl (show (1 : Int32).toInt = 1 by decide) (by omega)
          refine lv_goto (tgt := 31) hx hb dX5_read_167 (by decide) ?_
          exact ih31 ((2147483647 - x156.toInt).toNat) _ _ _ (by omega) ⟨x156, f31_0_4, za0_5_154, f31_1_3, f31_1_4, f31_1_5, f31_1_6, f31_1_7, w31_3, w31_4, w31_5, f31_7_0, f31_7_2, f31_7_4, f31_7_8, w31_8, w31_9, w31_10, w31_11, w31_12, w31_13, w31_14, w31_15, w31_17, w31_19, w31_20, r31, rfl, (by omega), (by omega), (by omega), (by omega), (by omega), (by omega), (by omega), hRS, (by omega), (by first | assumption | exact NOk.nil (by decide)), (by first | assumption | exact HOk.nil (by omega)), lv_sub hl [0, 1, 2, 3, 4, 5] rfl, hP, hD, hS⟩
