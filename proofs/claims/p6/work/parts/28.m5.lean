theorem dX9_lineHere_0 : decode cX9_lineHere 0 = .ok (.aload_n 0, 1) := by decide +kernel
theorem dX9_lineHere_1 : decode cX9_lineHere 1 = .ok (.ldc 205, 2) := by decide +kernel
theorem dX9_lineHere_3 : decode cX9_lineHere 3 = .ok (.invokevirtual 207, 3) := by decide +kernel
theorem dX9_lineHere_6 : decode cX9_lineHere 6 = .ok (.ifCond .eq 7, 3) := by decide +kernel
theorem dX9_lineHere_9 : decode cX9_lineHere 9 = .ok (.iconst 0, 1) := by decide +kernel
theorem dX9_lineHere_10 : decode cX9_lineHere 10 = .ok (.goto 43, 3) := by decide +kernel
theorem dX9_lineHere_13 : decode cX9_lineHere 13 = .ok (.aload_n 0, 1) := by decide +kernel
theorem dX9_lineHere_14 : decode cX9_lineHere 14 = .ok (.ldc 215, 2) := by decide +kernel
theorem dX9_lineHere_16 : decode cX9_lineHere 16 = .ok (.invokevirtual 207, 3) := by decide +kernel
theorem dX9_lineHere_19 : decode cX9_lineHere 19 = .ok (.ifCond .eq 7, 3) := by decide +kernel
theorem dX9_lineHere_22 : decode cX9_lineHere 22 = .ok (.iconst 1, 1) := by decide +kernel
theorem dX9_lineHere_23 : decode cX9_lineHere 23 = .ok (.goto 30, 3) := by decide +kernel
theorem dX9_lineHere_26 : decode cX9_lineHere 26 = .ok (.aload_n 0, 1) := by decide +kernel
theorem dX9_lineHere_27 : decode cX9_lineHere 27 = .ok (.ldc 217, 2) := by decide +kernel
theorem dX9_lineHere_29 : decode cX9_lineHere 29 = .ok (.invokevirtual 207, 3) := by decide +kernel
theorem dX9_lineHere_32 : decode cX9_lineHere 32 = .ok (.ifCond .eq 7, 3) := by decide +kernel
theorem dX9_lineHere_35 : decode cX9_lineHere 35 = .ok (.iconst 2, 1) := by decide +kernel
theorem dX9_lineHere_36 : decode cX9_lineHere 36 = .ok (.goto 17, 3) := by decide +kernel
theorem dX9_lineHere_39 : decode cX9_lineHere 39 = .ok (.aload_n 0, 1) := by decide +kernel
theorem dX9_lineHere_40 : decode cX9_lineHere 40 = .ok (.ldc 224, 2) := by decide +kernel
theorem dX9_lineHere_42 : decode cX9_lineHere 42 = .ok (.invokevirtual 207, 3) := by decide +kernel
theorem dX9_lineHere_45 : decode cX9_lineHere 45 = .ok (.ifCond .eq 7, 3) := by decide +kernel
theorem dX9_lineHere_48 : decode cX9_lineHere 48 = .ok (.iconst 3, 1) := by decide +kernel
theorem dX9_lineHere_49 : decode cX9_lineHere 49 = .ok (.goto 4, 3) := by decide +kernel
theorem dX9_lineHere_52 : decode cX9_lineHere 52 = .ok (.iconst (-1), 1) := by decide +kernel
theorem dX9_lineHere_53 : decode cX9_lineHere 53 = .ok (.istore_n 1, 1) := by decide +kernel
theorem dX9_lineHere_54 : decode cX9_lineHere 54 = .ok (.aload_n 0, 1) := by decide +kernel
theorem dX9_lineHere_55 : decode cX9_lineHere 55 = .ok (.iload_n 1, 1) := by decide +kernel
theorem dX9_lineHere_56 : decode cX9_lineHere 56 = .ok (.ifCond .lt 7, 3) := by decide +kernel
theorem dX9_lineHere_59 : decode cX9_lineHere 59 = .ok (.iconst 1, 1) := by decide +kernel
theorem dX9_lineHere_60 : decode cX9_lineHere 60 = .ok (.goto 4, 3) := by decide +kernel
theorem dX9_lineHere_63 : decode cX9_lineHere 63 = .ok (.iconst 0, 1) := by decide +kernel
theorem dX9_lineHere_64 : decode cX9_lineHere 64 = .ok (.iconst 1, 1) := by decide +kernel
theorem dX9_lineHere_65 : decode cX9_lineHere 65 = .ok (.invokevirtual 239, 3) := by decide +kernel
theorem dX9_lineHere_68 : decode cX9_lineHere 68 = .ok (.ifCond .ne 5, 3) := by decide +kernel
theorem dX9_lineHere_71 : decode cX9_lineHere 71 = .ok (.iconst 0, 1) := by decide +kernel
theorem dX9_lineHere_72 : decode cX9_lineHere 72 = .ok (.ireturn, 1) := by decide +kernel
theorem dX9_lineHere_73 : decode cX9_lineHere 73 = .ok (.iload_n 1, 1) := by decide +kernel
theorem dX9_lineHere_74 : decode cX9_lineHere 74 = .ok (.ifCond .ne 25, 3) := by decide +kernel
theorem dX9_lineHere_77 : decode cX9_lineHere 77 = .ok (.aload_n 0, 1) := by decide +kernel
theorem dX9_lineHere_78 : decode cX9_lineHere 78 = .ok (.getfield 13, 3) := by decide +kernel
theorem dX9_lineHere_81 : decode cX9_lineHere 81 = .ok (.aload_n 0, 1) := by decide +kernel
theorem dX9_lineHere_82 : decode cX9_lineHere 82 = .ok (.getfield 256, 3) := by decide +kernel
theorem dX9_lineHere_85 : decode cX9_lineHere 85 = .ok (.iaload, 1) := by decide +kernel
theorem dX9_lineHere_86 : decode cX9_lineHere 86 = .ok (.bipush 8, 2) := by decide +kernel
theorem dX9_lineHere_88 : decode cX9_lineHere 88 = .ok (.if_icmp .ge 7, 3) := by decide +kernel
theorem dX9_lineHere_91 : decode cX9_lineHere 91 = .ok (.iconst 1, 1) := by decide +kernel
theorem dX9_lineHere_92 : decode cX9_lineHere 92 = .ok (.goto 79, 3) := by decide +kernel
theorem dX9_lineHere_95 : decode cX9_lineHere 95 = .ok (.iconst 0, 1) := by decide +kernel
theorem dX9_lineHere_96 : decode cX9_lineHere 96 = .ok (.goto 75, 3) := by decide +kernel
theorem dX9_lineHere_99 : decode cX9_lineHere 99 = .ok (.iload_n 1, 1) := by decide +kernel
theorem dX9_lineHere_100 : decode cX9_lineHere 100 = .ok (.iconst 1, 1) := by decide +kernel
theorem dX9_lineHere_101 : decode cX9_lineHere 101 = .ok (.if_icmp .ne 24, 3) := by decide +kernel
theorem dX9_lineHere_104 : decode cX9_lineHere 104 = .ok (.aload_n 0, 1) := by decide +kernel
theorem dX9_lineHere_105 : decode cX9_lineHere 105 = .ok (.getfield 17, 3) := by decide +kernel
theorem dX9_lineHere_108 : decode cX9_lineHere 108 = .ok (.aload_n 0, 1) := by decide +kernel
theorem dX9_lineHere_109 : decode cX9_lineHere 109 = .ok (.getfield 256, 3) := by decide +kernel
theorem dX9_lineHere_112 : decode cX9_lineHere 112 = .ok (.iaload, 1) := by decide +kernel
theorem dX9_lineHere_113 : decode cX9_lineHere 113 = .ok (.iconst 4, 1) := by decide +kernel
theorem dX9_lineHere_114 : decode cX9_lineHere 114 = .ok (.if_icmp .ge 7, 3) := by decide +kernel
theorem dX9_lineHere_117 : decode cX9_lineHere 117 = .ok (.iconst 1, 1) := by decide +kernel
theorem dX9_lineHere_118 : decode cX9_lineHere 118 = .ok (.goto 53, 3) := by decide +kernel
theorem dX9_lineHere_121 : decode cX9_lineHere 121 = .ok (.iconst 0, 1) := by decide +kernel
theorem dX9_lineHere_122 : decode cX9_lineHere 122 = .ok (.goto 49, 3) := by decide +kernel
theorem dX9_lineHere_125 : decode cX9_lineHere 125 = .ok (.iload_n 1, 1) := by decide +kernel
theorem dX9_lineHere_126 : decode cX9_lineHere 126 = .ok (.iconst 2, 1) := by decide +kernel
theorem dX9_lineHere_127 : decode cX9_lineHere 127 = .ok (.if_icmp .ne 25, 3) := by decide +kernel
theorem dX9_lineHere_130 : decode cX9_lineHere 130 = .ok (.aload_n 0, 1) := by decide +kernel
theorem dX9_lineHere_131 : decode cX9_lineHere 131 = .ok (.getfield 20, 3) := by decide +kernel
theorem dX9_lineHere_134 : decode cX9_lineHere 134 = .ok (.aload_n 0, 1) := by decide +kernel
theorem dX9_lineHere_135 : decode cX9_lineHere 135 = .ok (.getfield 256, 3) := by decide +kernel
theorem dX9_lineHere_138 : decode cX9_lineHere 138 = .ok (.iaload, 1) := by decide +kernel
theorem dX9_lineHere_139 : decode cX9_lineHere 139 = .ok (.bipush 24, 2) := by decide +kernel
theorem dX9_lineHere_141 : decode cX9_lineHere 141 = .ok (.if_icmp .ge 7, 3) := by decide +kernel
theorem dX9_lineHere_144 : decode cX9_lineHere 144 = .ok (.iconst 1, 1) := by decide +kernel
theorem dX9_lineHere_145 : decode cX9_lineHere 145 = .ok (.goto 26, 3) := by decide +kernel
theorem dX9_lineHere_148 : decode cX9_lineHere 148 = .ok (.iconst 0, 1) := by decide +kernel
theorem dX9_lineHere_149 : decode cX9_lineHere 149 = .ok (.goto 22, 3) := by decide +kernel
theorem dX9_lineHere_152 : decode cX9_lineHere 152 = .ok (.aload_n 0, 1) := by decide +kernel
theorem dX9_lineHere_153 : decode cX9_lineHere 153 = .ok (.getfield 23, 3) := by decide +kernel
theorem dX9_lineHere_156 : decode cX9_lineHere 156 = .ok (.aload_n 0, 1) := by decide +kernel
theorem dX9_lineHere_157 : decode cX9_lineHere 157 = .ok (.getfield 256, 3) := by decide +kernel
theorem dX9_lineHere_160 : decode cX9_lineHere 160 = .ok (.iaload, 1) := by decide +kernel
theorem dX9_lineHere_161 : decode cX9_lineHere 161 = .ok (.bipush 12, 2) := by decide +kernel
theorem dX9_lineHere_163 : decode cX9_lineHere 163 = .ok (.if_icmp .ge 7, 3) := by decide +kernel
theorem dX9_lineHere_166 : decode cX9_lineHere 166 = .ok (.iconst 1, 1) := by decide +kernel
theorem dX9_lineHere_167 : decode cX9_lineHere 167 = .ok (.goto 4, 3) := by decide +kernel
theorem dX9_lineHere_170 : decode cX9_lineHere 170 = .ok (.iconst 0, 1) := by decide +kernel
theorem dX9_lineHere_171 : decode cX9_lineHere 171 = .ok (.istore_n 2, 1) := by decide +kernel
theorem dX9_lineHere_172 : decode cX9_lineHere 172 = .ok (.aload_n 0, 1) := by decide +kernel
theorem dX9_lineHere_173 : decode cX9_lineHere 173 = .ok (.iload_n 2, 1) := by decide +kernel
theorem dX9_lineHere_174 : decode cX9_lineHere 174 = .ok (.iconst 5, 1) := by decide +kernel
theorem dX9_lineHere_175 : decode cX9_lineHere 175 = .ok (.invokevirtual 239, 3) := by decide +kernel
theorem dX9_lineHere_178 : decode cX9_lineHere 178 = .ok (.ifCond .ne 5, 3) := by decide +kernel
theorem dX9_lineHere_181 : decode cX9_lineHere 181 = .ok (.iconst 0, 1) := by decide +kernel
theorem dX9_lineHere_182 : decode cX9_lineHere 182 = .ok (.ireturn, 1) := by decide +kernel
theorem dX9_lineHere_183 : decode cX9_lineHere 183 = .ok (.aload_n 0, 1) := by decide +kernel
theorem dX9_lineHere_184 : decode cX9_lineHere 184 = .ok (.invokevirtual 236, 3) := by decide +kernel
theorem dX9_lineHere_187 : decode cX9_lineHere 187 = .ok (.iload_n 1, 1) := by decide +kernel
theorem dX9_lineHere_188 : decode cX9_lineHere 188 = .ok (.ifCond .ne 10, 3) := by decide +kernel
theorem dX9_lineHere_191 : decode cX9_lineHere 191 = .ok (.aload_n 0, 1) := by decide +kernel
theorem dX9_lineHere_192 : decode cX9_lineHere 192 = .ok (.invokevirtual 292, 3) := by decide +kernel
theorem dX9_lineHere_195 : decode cX9_lineHere 195 = .ok (.goto 31, 3) := by decide +kernel
theorem dX9_lineHere_198 : decode cX9_lineHere 198 = .ok (.iload_n 1, 1) := by decide +kernel
theorem dX9_lineHere_199 : decode cX9_lineHere 199 = .ok (.iconst 1, 1) := by decide +kernel
theorem dX9_lineHere_200 : decode cX9_lineHere 200 = .ok (.if_icmp .ne 10, 3) := by decide +kernel
theorem dX9_lineHere_203 : decode cX9_lineHere 203 = .ok (.aload_n 0, 1) := by decide +kernel
theorem dX9_lineHere_204 : decode cX9_lineHere 204 = .ok (.invokevirtual 295, 3) := by decide +kernel
theorem dX9_lineHere_207 : decode cX9_lineHere 207 = .ok (.goto 19, 3) := by decide +kernel
theorem dX9_lineHere_210 : decode cX9_lineHere 210 = .ok (.iload_n 1, 1) := by decide +kernel
theorem dX9_lineHere_211 : decode cX9_lineHere 211 = .ok (.iconst 2, 1) := by decide +kernel
theorem dX9_lineHere_212 : decode cX9_lineHere 212 = .ok (.if_icmp .ne 10, 3) := by decide +kernel
theorem dX9_lineHere_215 : decode cX9_lineHere 215 = .ok (.aload_n 0, 1) := by decide +kernel
theorem dX9_lineHere_216 : decode cX9_lineHere 216 = .ok (.invokevirtual 298, 3) := by decide +kernel
theorem dX9_lineHere_219 : decode cX9_lineHere 219 = .ok (.goto 7, 3) := by decide +kernel
theorem dX9_lineHere_222 : decode cX9_lineHere 222 = .ok (.aload_n 0, 1) := by decide +kernel
theorem dX9_lineHere_223 : decode cX9_lineHere 223 = .ok (.invokevirtual 301, 3) := by decide +kernel
theorem dX9_lineHere_226 : decode cX9_lineHere 226 = .ok (.istore_n 3, 1) := by decide +kernel
theorem dX9_lineHere_227 : decode cX9_lineHere 227 = .ok (.iload_n 3, 1) := by decide +kernel
theorem dX9_lineHere_228 : decode cX9_lineHere 228 = .ok (.ifCond .eq 24, 3) := by decide +kernel
theorem dX9_lineHere_231 : decode cX9_lineHere 231 = .ok (.aload_n 0, 1) := by decide +kernel
theorem dX9_lineHere_232 : decode cX9_lineHere 232 = .ok (.aload_n 0, 1) := by decide +kernel
theorem dX9_lineHere_233 : decode cX9_lineHere 233 = .ok (.getfield 160, 3) := by decide +kernel
theorem dX9_lineHere_236 : decode cX9_lineHere 236 = .ok (.iconst 3, 1) := by decide +kernel
theorem dX9_lineHere_237 : decode cX9_lineHere 237 = .ok (.if_icmp .ne 7, 3) := by decide +kernel
theorem dX9_lineHere_240 : decode cX9_lineHere 240 = .ok (.iconst 1, 1) := by decide +kernel
theorem dX9_lineHere_241 : decode cX9_lineHere 241 = .ok (.goto 4, 3) := by decide +kernel
theorem dX9_lineHere_244 : decode cX9_lineHere 244 = .ok (.iconst 0, 1) := by decide +kernel
theorem dX9_lineHere_245 : decode cX9_lineHere 245 = .ok (.iconst 1, 1) := by decide +kernel
theorem dX9_lineHere_246 : decode cX9_lineHere 246 = .ok (.invokevirtual 239, 3) := by decide +kernel
theorem dX9_lineHere_249 : decode cX9_lineHere 249 = .ok (.ifCond .ne 5, 3) := by decide +kernel
theorem dX9_lineHere_252 : decode cX9_lineHere 252 = .ok (.iconst 0, 1) := by decide +kernel
theorem dX9_lineHere_253 : decode cX9_lineHere 253 = .ok (.ireturn, 1) := by decide +kernel
theorem dX9_lineHere_254 : decode cX9_lineHere 254 = .ok (.aload_n 0, 1) := by decide +kernel
theorem dX9_lineHere_255 : decode cX9_lineHere 255 = .ok (.invokevirtual 236, 3) := by decide +kernel
theorem dX9_lineHere_258 : decode cX9_lineHere 258 = .ok (.iconst 1, 1) := by decide +kernel
theorem dX9_lineHere_259 : decode cX9_lineHere 259 = .ok (.ireturn, 1) := by decide +kernel
theorem dX9_copies_0 : decode cX9_copies 0 = .ok (.aload_n 0, 1) := by decide +kernel
theorem dX9_copies_1 : decode cX9_copies 1 = .ok (.getfield 13, 3) := by decide +kernel
theorem dX9_copies_4 : decode cX9_copies 4 = .ok (.iconst 0, 1) := by decide +kernel
theorem dX9_copies_5 : decode cX9_copies 5 = .ok (.aload_n 0, 1) := by decide +kernel
theorem dX9_copies_6 : decode cX9_copies 6 = .ok (.getfield 13, 3) := by decide +kernel
theorem dX9_copies_9 : decode cX9_copies 9 = .ok (.iconst 1, 1) := by decide +kernel
theorem dX9_copies_10 : decode cX9_copies 10 = .ok (.iaload, 1) := by decide +kernel
theorem dX9_copies_11 : decode cX9_copies 11 = .ok (.iastore, 1) := by decide +kernel
theorem dX9_copies_12 : decode cX9_copies 12 = .ok (.aload_n 0, 1) := by decide +kernel
theorem dX9_copies_13 : decode cX9_copies 13 = .ok (.getfield 17, 3) := by decide +kernel
theorem dX9_copies_16 : decode cX9_copies 16 = .ok (.iconst 0, 1) := by decide +kernel
theorem dX9_copies_17 : decode cX9_copies 17 = .ok (.aload_n 0, 1) := by decide +kernel
theorem dX9_copies_18 : decode cX9_copies 18 = .ok (.getfield 17, 3) := by decide +kernel
theorem dX9_copies_21 : decode cX9_copies 21 = .ok (.iconst 1, 1) := by decide +kernel
theorem dX9_copies_22 : decode cX9_copies 22 = .ok (.iaload, 1) := by decide +kernel
theorem dX9_copies_23 : decode cX9_copies 23 = .ok (.iastore, 1) := by decide +kernel
theorem dX9_copies_24 : decode cX9_copies 24 = .ok (.aload_n 0, 1) := by decide +kernel
theorem dX9_copies_25 : decode cX9_copies 25 = .ok (.getfield 20, 3) := by decide +kernel
theorem dX9_copies_28 : decode cX9_copies 28 = .ok (.iconst 0, 1) := by decide +kernel
theorem dX9_copies_29 : decode cX9_copies 29 = .ok (.aload_n 0, 1) := by decide +kernel
theorem dX9_copies_30 : decode cX9_copies 30 = .ok (.getfield 20, 3) := by decide +kernel
theorem dX9_copies_33 : decode cX9_copies 33 = .ok (.iconst 1, 1) := by decide +kernel
theorem dX9_copies_34 : decode cX9_copies 34 = .ok (.iaload, 1) := by decide +kernel
theorem dX9_copies_35 : decode cX9_copies 35 = .ok (.iastore, 1) := by decide +kernel
theorem dX9_copies_36 : decode cX9_copies 36 = .ok (.aload_n 0, 1) := by decide +kernel
theorem dX9_copies_37 : decode cX9_copies 37 = .ok (.getfield 23, 3) := by decide +kernel
theorem dX9_copies_40 : decode cX9_copies 40 = .ok (.iconst 0, 1) := by decide +kernel
theorem dX9_copies_41 : decode cX9_copies 41 = .ok (.aload_n 0, 1) := by decide +kernel
theorem dX9_copies_42 : decode cX9_copies 42 = .ok (.getfield 23, 3) := by decide +kernel
theorem dX9_copies_45 : decode cX9_copies 45 = .ok (.iconst 1, 1) := by decide +kernel
theorem dX9_copies_46 : decode cX9_copies 46 = .ok (.iaload, 1) := by decide +kernel
theorem dX9_copies_47 : decode cX9_copies 47 = .ok (.iastore, 1) := by decide +kernel
theorem dX9_copies_48 : decode cX9_copies 48 = .ok (.iconst 0, 1) := by decide +kernel
theorem dX9_copies_49 : decode cX9_copies 49 = .ok (.istore_n 1, 1) := by decide +kernel
theorem dX9_copies_50 : decode cX9_copies 50 = .ok (.iload_n 1, 1) := by decide +kernel
theorem dX9_copies_51 : decode cX9_copies 51 = .ok (.bipush 8, 2) := by decide +kernel
theorem dX9_copies_53 : decode cX9_copies 53 = .ok (.if_icmp .ge 57, 3) := by decide +kernel
theorem dX9_copies_56 : decode cX9_copies 56 = .ok (.aload_n 0, 1) := by decide +kernel
theorem dX9_copies_57 : decode cX9_copies 57 = .ok (.getfield 26, 3) := by decide +kernel
theorem dX9_copies_60 : decode cX9_copies 60 = .ok (.iload_n 1, 1) := by decide +kernel
theorem dX9_copies_61 : decode cX9_copies 61 = .ok (.aload_n 0, 1) := by decide +kernel
theorem dX9_copies_62 : decode cX9_copies 62 = .ok (.getfield 26, 3) := by decide +kernel
theorem dX9_copies_65 : decode cX9_copies 65 = .ok (.bipush 8, 2) := by decide +kernel
theorem dX9_copies_67 : decode cX9_copies 67 = .ok (.iload_n 1, 1) := by decide +kernel
theorem dX9_copies_68 : decode cX9_copies 68 = .ok (.iadd, 1) := by decide +kernel
theorem dX9_copies_69 : decode cX9_copies 69 = .ok (.laload, 1) := by decide +kernel
theorem dX9_copies_70 : decode cX9_copies 70 = .ok (.lastore, 1) := by decide +kernel
theorem dX9_copies_71 : decode cX9_copies 71 = .ok (.aload_n 0, 1) := by decide +kernel
theorem dX9_copies_72 : decode cX9_copies 72 = .ok (.getfield 30, 3) := by decide +kernel
theorem dX9_copies_75 : decode cX9_copies 75 = .ok (.iload_n 1, 1) := by decide +kernel
theorem dX9_copies_76 : decode cX9_copies 76 = .ok (.aload_n 0, 1) := by decide +kernel
theorem dX9_copies_77 : decode cX9_copies 77 = .ok (.getfield 30, 3) := by decide +kernel
theorem dX9_copies_80 : decode cX9_copies 80 = .ok (.bipush 8, 2) := by decide +kernel
theorem dX9_copies_82 : decode cX9_copies 82 = .ok (.iload_n 1, 1) := by decide +kernel
theorem dX9_copies_83 : decode cX9_copies 83 = .ok (.iadd, 1) := by decide +kernel
theorem dX9_copies_84 : decode cX9_copies 84 = .ok (.iaload, 1) := by decide +kernel
theorem dX9_copies_85 : decode cX9_copies 85 = .ok (.iastore, 1) := by decide +kernel
theorem dX9_copies_86 : decode cX9_copies 86 = .ok (.aload_n 0, 1) := by decide +kernel
theorem dX9_copies_87 : decode cX9_copies 87 = .ok (.getfield 70, 3) := by decide +kernel
theorem dX9_copies_90 : decode cX9_copies 90 = .ok (.bipush 24, 2) := by decide +kernel
theorem dX9_copies_92 : decode cX9_copies 92 = .ok (.iload_n 1, 1) := by decide +kernel
theorem dX9_copies_93 : decode cX9_copies 93 = .ok (.iadd, 1) := by decide +kernel
theorem dX9_copies_94 : decode cX9_copies 94 = .ok (.aload_n 0, 1) := by decide +kernel
theorem dX9_copies_95 : decode cX9_copies 95 = .ok (.getfield 33, 3) := by decide +kernel
theorem dX9_copies_98 : decode cX9_copies 98 = .ok (.bipush 8, 2) := by decide +kernel
theorem dX9_copies_100 : decode cX9_copies 100 = .ok (.iload_n 1, 1) := by decide +kernel
theorem dX9_copies_101 : decode cX9_copies 101 = .ok (.iadd, 1) := by decide +kernel
theorem dX9_copies_102 : decode cX9_copies 102 = .ok (.iaload, 1) := by decide +kernel
theorem dX9_copies_103 : decode cX9_copies 103 = .ok (.iastore, 1) := by decide +kernel
theorem dX9_copies_104 : decode cX9_copies 104 = .ok (.iinc 1 1, 3) := by decide +kernel
theorem dX9_copies_107 : decode cX9_copies 107 = .ok (.goto (-57), 3) := by decide +kernel
theorem dX9_copies_110 : decode cX9_copies 110 = .ok (.iconst 0, 1) := by decide +kernel
theorem dX9_copies_111 : decode cX9_copies 111 = .ok (.istore_n 1, 1) := by decide +kernel
theorem dX9_copies_112 : decode cX9_copies 112 = .ok (.iload_n 1, 1) := by decide +kernel
theorem dX9_copies_113 : decode cX9_copies 113 = .ok (.iconst 4, 1) := by decide +kernel
theorem dX9_copies_114 : decode cX9_copies 114 = .ok (.if_icmp .ge 37, 3) := by decide +kernel
theorem dX9_copies_117 : decode cX9_copies 117 = .ok (.aload_n 0, 1) := by decide +kernel
theorem dX9_copies_118 : decode cX9_copies 118 = .ok (.getfield 36, 3) := by decide +kernel
theorem dX9_copies_121 : decode cX9_copies 121 = .ok (.iload_n 1, 1) := by decide +kernel
theorem dX9_copies_122 : decode cX9_copies 122 = .ok (.aload_n 0, 1) := by decide +kernel
theorem dX9_copies_123 : decode cX9_copies 123 = .ok (.getfield 36, 3) := by decide +kernel
theorem dX9_copies_126 : decode cX9_copies 126 = .ok (.iconst 4, 1) := by decide +kernel
theorem dX9_copies_127 : decode cX9_copies 127 = .ok (.iload_n 1, 1) := by decide +kernel
theorem dX9_copies_128 : decode cX9_copies 128 = .ok (.iadd, 1) := by decide +kernel
theorem dX9_copies_129 : decode cX9_copies 129 = .ok (.laload, 1) := by decide +kernel
theorem dX9_copies_130 : decode cX9_copies 130 = .ok (.lastore, 1) := by decide +kernel
theorem dX9_copies_131 : decode cX9_copies 131 = .ok (.aload_n 0, 1) := by decide +kernel
theorem dX9_copies_132 : decode cX9_copies 132 = .ok (.getfield 39, 3) := by decide +kernel
theorem dX9_copies_135 : decode cX9_copies 135 = .ok (.iload_n 1, 1) := by decide +kernel
theorem dX9_copies_136 : decode cX9_copies 136 = .ok (.aload_n 0, 1) := by decide +kernel
theorem dX9_copies_137 : decode cX9_copies 137 = .ok (.getfield 39, 3) := by decide +kernel
theorem dX9_copies_140 : decode cX9_copies 140 = .ok (.iconst 4, 1) := by decide +kernel
theorem dX9_copies_141 : decode cX9_copies 141 = .ok (.iload_n 1, 1) := by decide +kernel
theorem dX9_copies_142 : decode cX9_copies 142 = .ok (.iadd, 1) := by decide +kernel
theorem dX9_copies_143 : decode cX9_copies 143 = .ok (.iaload, 1) := by decide +kernel
theorem dX9_copies_144 : decode cX9_copies 144 = .ok (.iastore, 1) := by decide +kernel
theorem dX9_copies_145 : decode cX9_copies 145 = .ok (.iinc 1 1, 3) := by decide +kernel
theorem dX9_copies_148 : decode cX9_copies 148 = .ok (.goto (-36), 3) := by decide +kernel
theorem dX9_copies_151 : decode cX9_copies 151 = .ok (.iconst 0, 1) := by decide +kernel
theorem dX9_copies_152 : decode cX9_copies 152 = .ok (.istore_n 1, 1) := by decide +kernel
theorem dX9_copies_153 : decode cX9_copies 153 = .ok (.iload_n 1, 1) := by decide +kernel
theorem dX9_copies_154 : decode cX9_copies 154 = .ok (.bipush 24, 2) := by decide +kernel
theorem dX9_copies_156 : decode cX9_copies 156 = .ok (.if_icmp .ge 84, 3) := by decide +kernel
theorem dX9_copies_159 : decode cX9_copies 159 = .ok (.aload_n 0, 1) := by decide +kernel
theorem dX9_copies_160 : decode cX9_copies 160 = .ok (.getfield 42, 3) := by decide +kernel
theorem dX9_copies_163 : decode cX9_copies 163 = .ok (.iload_n 1, 1) := by decide +kernel
theorem dX9_copies_164 : decode cX9_copies 164 = .ok (.aload_n 0, 1) := by decide +kernel
theorem dX9_copies_165 : decode cX9_copies 165 = .ok (.getfield 42, 3) := by decide +kernel
theorem dX9_copies_168 : decode cX9_copies 168 = .ok (.bipush 24, 2) := by decide +kernel
theorem dX9_copies_170 : decode cX9_copies 170 = .ok (.iload_n 1, 1) := by decide +kernel
theorem dX9_copies_171 : decode cX9_copies 171 = .ok (.iadd, 1) := by decide +kernel
theorem dX9_copies_172 : decode cX9_copies 172 = .ok (.laload, 1) := by decide +kernel
theorem dX9_copies_173 : decode cX9_copies 173 = .ok (.lastore, 1) := by decide +kernel
theorem dX9_copies_174 : decode cX9_copies 174 = .ok (.aload_n 0, 1) := by decide +kernel
theorem dX9_copies_175 : decode cX9_copies 175 = .ok (.getfield 70, 3) := by decide +kernel
theorem dX9_copies_178 : decode cX9_copies 178 = .ok (.iload_n 1, 1) := by decide +kernel
theorem dX9_copies_179 : decode cX9_copies 179 = .ok (.aload_n 0, 1) := by decide +kernel
theorem dX9_copies_180 : decode cX9_copies 180 = .ok (.getfield 45, 3) := by decide +kernel
theorem dX9_copies_183 : decode cX9_copies 183 = .ok (.bipush 24, 2) := by decide +kernel
theorem dX9_copies_185 : decode cX9_copies 185 = .ok (.iload_n 1, 1) := by decide +kernel
theorem dX9_copies_186 : decode cX9_copies 186 = .ok (.iadd, 1) := by decide +kernel
theorem dX9_copies_187 : decode cX9_copies 187 = .ok (.iaload, 1) := by decide +kernel
theorem dX9_copies_188 : decode cX9_copies 188 = .ok (.iastore, 1) := by decide +kernel
theorem dX9_copies_189 : decode cX9_copies 189 = .ok (.aload_n 0, 1) := by decide +kernel
theorem dX9_copies_190 : decode cX9_copies 190 = .ok (.getfield 48, 3) := by decide +kernel
theorem dX9_copies_193 : decode cX9_copies 193 = .ok (.iload_n 1, 1) := by decide +kernel
theorem dX9_copies_194 : decode cX9_copies 194 = .ok (.aload_n 0, 1) := by decide +kernel
theorem dX9_copies_195 : decode cX9_copies 195 = .ok (.getfield 48, 3) := by decide +kernel
theorem dX9_copies_198 : decode cX9_copies 198 = .ok (.bipush 24, 2) := by decide +kernel
theorem dX9_copies_200 : decode cX9_copies 200 = .ok (.iload_n 1, 1) := by decide +kernel
theorem dX9_copies_201 : decode cX9_copies 201 = .ok (.iadd, 1) := by decide +kernel
theorem dX9_copies_202 : decode cX9_copies 202 = .ok (.iaload, 1) := by decide +kernel
theorem dX9_copies_203 : decode cX9_copies 203 = .ok (.iastore, 1) := by decide +kernel
theorem dX9_copies_204 : decode cX9_copies 204 = .ok (.aload_n 0, 1) := by decide +kernel
theorem dX9_copies_205 : decode cX9_copies 205 = .ok (.getfield 51, 3) := by decide +kernel
theorem dX9_copies_208 : decode cX9_copies 208 = .ok (.iload_n 1, 1) := by decide +kernel
theorem dX9_copies_209 : decode cX9_copies 209 = .ok (.aload_n 0, 1) := by decide +kernel
theorem dX9_copies_210 : decode cX9_copies 210 = .ok (.getfield 51, 3) := by decide +kernel
theorem dX9_copies_213 : decode cX9_copies 213 = .ok (.bipush 24, 2) := by decide +kernel
theorem dX9_copies_215 : decode cX9_copies 215 = .ok (.iload_n 1, 1) := by decide +kernel
theorem dX9_copies_216 : decode cX9_copies 216 = .ok (.iadd, 1) := by decide +kernel
theorem dX9_copies_217 : decode cX9_copies 217 = .ok (.iaload, 1) := by decide +kernel
theorem dX9_copies_218 : decode cX9_copies 218 = .ok (.iastore, 1) := by decide +kernel
theorem dX9_copies_219 : decode cX9_copies 219 = .ok (.aload_n 0, 1) := by decide +kernel
theorem dX9_copies_220 : decode cX9_copies 220 = .ok (.getfield 54, 3) := by decide +kernel
theorem dX9_copies_223 : decode cX9_copies 223 = .ok (.iload_n 1, 1) := by decide +kernel
theorem dX9_copies_224 : decode cX9_copies 224 = .ok (.aload_n 0, 1) := by decide +kernel
theorem dX9_copies_225 : decode cX9_copies 225 = .ok (.getfield 54, 3) := by decide +kernel
theorem dX9_copies_228 : decode cX9_copies 228 = .ok (.bipush 24, 2) := by decide +kernel
theorem dX9_copies_230 : decode cX9_copies 230 = .ok (.iload_n 1, 1) := by decide +kernel
theorem dX9_copies_231 : decode cX9_copies 231 = .ok (.iadd, 1) := by decide +kernel
theorem dX9_copies_232 : decode cX9_copies 232 = .ok (.iaload, 1) := by decide +kernel
theorem dX9_copies_233 : decode cX9_copies 233 = .ok (.iastore, 1) := by decide +kernel
theorem dX9_copies_234 : decode cX9_copies 234 = .ok (.iinc 1 1, 3) := by decide +kernel
theorem dX9_copies_237 : decode cX9_copies 237 = .ok (.goto (-84), 3) := by decide +kernel
theorem dX9_copies_240 : decode cX9_copies 240 = .ok (.iconst 0, 1) := by decide +kernel
theorem dX9_copies_241 : decode cX9_copies 241 = .ok (.istore_n 1, 1) := by decide +kernel
theorem dX9_copies_242 : decode cX9_copies 242 = .ok (.iload_n 1, 1) := by decide +kernel
theorem dX9_copies_243 : decode cX9_copies 243 = .ok (.bipush 12, 2) := by decide +kernel
theorem dX9_copies_245 : decode cX9_copies 245 = .ok (.if_icmp .ge 110, 3) := by decide +kernel
theorem dX9_copies_248 : decode cX9_copies 248 = .ok (.aload_n 0, 1) := by decide +kernel
theorem dX9_copies_249 : decode cX9_copies 249 = .ok (.getfield 57, 3) := by decide +kernel
theorem dX9_copies_252 : decode cX9_copies 252 = .ok (.iload_n 1, 1) := by decide +kernel
theorem dX9_copies_253 : decode cX9_copies 253 = .ok (.aload_n 0, 1) := by decide +kernel
theorem dX9_copies_254 : decode cX9_copies 254 = .ok (.getfield 57, 3) := by decide +kernel
theorem dX9_copies_257 : decode cX9_copies 257 = .ok (.bipush 12, 2) := by decide +kernel
theorem dX9_copies_259 : decode cX9_copies 259 = .ok (.iload_n 1, 1) := by decide +kernel
theorem dX9_copies_260 : decode cX9_copies 260 = .ok (.iadd, 1) := by decide +kernel
theorem dX9_copies_261 : decode cX9_copies 261 = .ok (.iaload, 1) := by decide +kernel
theorem dX9_copies_262 : decode cX9_copies 262 = .ok (.iastore, 1) := by decide +kernel
theorem dX9_copies_263 : decode cX9_copies 263 = .ok (.aload_n 0, 1) := by decide +kernel
theorem dX9_copies_264 : decode cX9_copies 264 = .ok (.getfield 60, 3) := by decide +kernel
theorem dX9_copies_267 : decode cX9_copies 267 = .ok (.iload_n 1, 1) := by decide +kernel
theorem dX9_copies_268 : decode cX9_copies 268 = .ok (.aload_n 0, 1) := by decide +kernel
theorem dX9_copies_269 : decode cX9_copies 269 = .ok (.getfield 60, 3) := by decide +kernel
theorem dX9_copies_272 : decode cX9_copies 272 = .ok (.bipush 12, 2) := by decide +kernel
theorem dX9_copies_274 : decode cX9_copies 274 = .ok (.iload_n 1, 1) := by decide +kernel
theorem dX9_copies_275 : decode cX9_copies 275 = .ok (.iadd, 1) := by decide +kernel
theorem dX9_copies_276 : decode cX9_copies 276 = .ok (.iaload, 1) := by decide +kernel
theorem dX9_copies_277 : decode cX9_copies 277 = .ok (.iastore, 1) := by decide +kernel
theorem dX9_copies_278 : decode cX9_copies 278 = .ok (.aload_n 0, 1) := by decide +kernel
theorem dX9_copies_279 : decode cX9_copies 279 = .ok (.getfield 66, 3) := by decide +kernel
theorem dX9_copies_282 : decode cX9_copies 282 = .ok (.iload_n 1, 1) := by decide +kernel
theorem dX9_copies_283 : decode cX9_copies 283 = .ok (.aload_n 0, 1) := by decide +kernel
theorem dX9_copies_284 : decode cX9_copies 284 = .ok (.getfield 66, 3) := by decide +kernel
theorem dX9_copies_287 : decode cX9_copies 287 = .ok (.bipush 12, 2) := by decide +kernel
theorem dX9_copies_289 : decode cX9_copies 289 = .ok (.iload_n 1, 1) := by decide +kernel
theorem dX9_copies_290 : decode cX9_copies 290 = .ok (.iadd, 1) := by decide +kernel
theorem dX9_copies_291 : decode cX9_copies 291 = .ok (.baload, 1) := by decide +kernel
theorem dX9_copies_292 : decode cX9_copies 292 = .ok (.bastore, 1) := by decide +kernel
theorem dX9_copies_293 : decode cX9_copies 293 = .ok (.iconst 0, 1) := by decide +kernel
theorem dX9_copies_294 : decode cX9_copies 294 = .ok (.istore_n 2, 1) := by decide +kernel
theorem dX9_copies_295 : decode cX9_copies 295 = .ok (.iload_n 2, 1) := by decide +kernel
theorem dX9_copies_296 : decode cX9_copies 296 = .ok (.iconst 3, 1) := by decide +kernel
theorem dX9_copies_297 : decode cX9_copies 297 = .ok (.if_icmp .ge 32, 3) := by decide +kernel
theorem dX9_copies_300 : decode cX9_copies 300 = .ok (.aload_n 0, 1) := by decide +kernel
theorem dX9_copies_301 : decode cX9_copies 301 = .ok (.getfield 63, 3) := by decide +kernel
theorem dX9_copies_304 : decode cX9_copies 304 = .ok (.iconst 3, 1) := by decide +kernel
theorem dX9_copies_305 : decode cX9_copies 305 = .ok (.iload_n 1, 1) := by decide +kernel
theorem dX9_copies_306 : decode cX9_copies 306 = .ok (.imul, 1) := by decide +kernel
theorem dX9_copies_307 : decode cX9_copies 307 = .ok (.iload_n 2, 1) := by decide +kernel
theorem dX9_copies_308 : decode cX9_copies 308 = .ok (.iadd, 1) := by decide +kernel
theorem dX9_copies_309 : decode cX9_copies 309 = .ok (.aload_n 0, 1) := by decide +kernel
theorem dX9_copies_310 : decode cX9_copies 310 = .ok (.getfield 63, 3) := by decide +kernel
theorem dX9_copies_313 : decode cX9_copies 313 = .ok (.iconst 3, 1) := by decide +kernel
theorem dX9_copies_314 : decode cX9_copies 314 = .ok (.bipush 12, 2) := by decide +kernel
theorem dX9_copies_316 : decode cX9_copies 316 = .ok (.iload_n 1, 1) := by decide +kernel
theorem dX9_copies_317 : decode cX9_copies 317 = .ok (.iadd, 1) := by decide +kernel
theorem dX9_copies_318 : decode cX9_copies 318 = .ok (.imul, 1) := by decide +kernel
theorem dX9_copies_319 : decode cX9_copies 319 = .ok (.iload_n 2, 1) := by decide +kernel
theorem dX9_copies_320 : decode cX9_copies 320 = .ok (.iadd, 1) := by decide +kernel
theorem dX9_copies_321 : decode cX9_copies 321 = .ok (.iaload, 1) := by decide +kernel
theorem dX9_copies_322 : decode cX9_copies 322 = .ok (.iastore, 1) := by decide +kernel
theorem dX9_copies_323 : decode cX9_copies 323 = .ok (.iinc 2 1, 3) := by decide +kernel
theorem dX9_copies_326 : decode cX9_copies 326 = .ok (.goto (-31), 3) := by decide +kernel
theorem dX9_copies_329 : decode cX9_copies 329 = .ok (.aload_n 0, 1) := by decide +kernel
theorem dX9_copies_330 : decode cX9_copies 330 = .ok (.getfield 70, 3) := by decide +kernel
theorem dX9_copies_333 : decode cX9_copies 333 = .ok (.bipush 32, 2) := by decide +kernel
theorem dX9_copies_335 : decode cX9_copies 335 = .ok (.iload_n 1, 1) := by decide +kernel
theorem dX9_copies_336 : decode cX9_copies 336 = .ok (.iadd, 1) := by decide +kernel
theorem dX9_copies_337 : decode cX9_copies 337 = .ok (.iconst (-1), 1) := by decide +kernel
theorem dX9_copies_338 : decode cX9_copies 338 = .ok (.iastore, 1) := by decide +kernel
theorem dX9_copies_339 : decode cX9_copies 339 = .ok (.aload_n 0, 1) := by decide +kernel
theorem dX9_copies_340 : decode cX9_copies 340 = .ok (.getfield 70, 3) := by decide +kernel
theorem dX9_copies_343 : decode cX9_copies 343 = .ok (.bipush 44, 2) := by decide +kernel
theorem dX9_copies_345 : decode cX9_copies 345 = .ok (.iload_n 1, 1) := by decide +kernel
theorem dX9_copies_346 : decode cX9_copies 346 = .ok (.iadd, 1) := by decide +kernel
theorem dX9_copies_347 : decode cX9_copies 347 = .ok (.iconst 0, 1) := by decide +kernel
theorem dX9_copies_348 : decode cX9_copies 348 = .ok (.iastore, 1) := by decide +kernel
theorem dX9_copies_349 : decode cX9_copies 349 = .ok (.iinc 1 1, 3) := by decide +kernel
theorem dX9_copies_352 : decode cX9_copies 352 = .ok (.goto (-110), 3) := by decide +kernel
theorem dX9_copies_355 : decode cX9_copies 355 = .ok (.return_, 1) := by decide +kernel
theorem qw_576 : (Cond.code yX9_closeLine cX9_closeLine 3 (some .boolean) : Cond) ∈ TBL := List.mem_of_getElem? (i := 474) (by decide +kernel)
theorem qw_577 : (Cond.methodLink RX9 301 yX9_closeLine : Cond) ∈ TBL := List.mem_of_getElem? (i := 471) (by decide +kernel)
theorem qw_578 : (Cond.instanceMethod yX9_closeLine : Cond) ∈ TBL := List.mem_of_getElem? (i := 472) (by decide +kernel)
theorem qw_579 : (Cond.selects RX9 yX9_closeLine yX9_closeLine : Cond) ∈ TBL := List.mem_of_getElem? (i := 473) (by decide +kernel)
theorem qw_580 : (Cond.code yX9_pieceLine cX9_pieceLine 4 (some .boolean) : Cond) ∈ TBL := List.mem_of_getElem? (i := 461) (by decide +kernel)
theorem qw_581 : (Cond.methodLink RX9 298 yX9_pieceLine : Cond) ∈ TBL := List.mem_of_getElem? (i := 458) (by decide +kernel)
theorem qw_582 : (Cond.instanceMethod yX9_pieceLine : Cond) ∈ TBL := List.mem_of_getElem? (i := 459) (by decide +kernel)
theorem qw_583 : (Cond.selects RX9 yX9_pieceLine yX9_pieceLine : Cond) ∈ TBL := List.mem_of_getElem? (i := 460) (by decide +kernel)
theorem qw_584 : (Cond.code yX9_depositLine cX9_depositLine 4 (some .boolean) : Cond) ∈ TBL := List.mem_of_getElem? (i := 457) (by decide +kernel)
theorem qw_585 : (Cond.methodLink RX9 295 yX9_depositLine : Cond) ∈ TBL := List.mem_of_getElem? (i := 454) (by decide +kernel)
theorem qw_586 : (Cond.instanceMethod yX9_depositLine : Cond) ∈ TBL := List.mem_of_getElem? (i := 455) (by decide +kernel)
theorem qw_587 : (Cond.selects RX9 yX9_depositLine yX9_depositLine : Cond) ∈ TBL := List.mem_of_getElem? (i := 456) (by decide +kernel)
theorem qw_588 : (Cond.code yX9_personLine cX9_personLine 2 (some .boolean) : Cond) ∈ TBL := List.mem_of_getElem? (i := 401) (by decide +kernel)
theorem qw_589 : (Cond.methodLink RX9 292 yX9_personLine : Cond) ∈ TBL := List.mem_of_getElem? (i := 398) (by decide +kernel)
theorem qw_590 : (Cond.instanceMethod yX9_personLine : Cond) ∈ TBL := List.mem_of_getElem? (i := 399) (by decide +kernel)
theorem qw_591 : (Cond.selects RX9 yX9_personLine yX9_personLine : Cond) ∈ TBL := List.mem_of_getElem? (i := 400) (by decide +kernel)
theorem rgP20_580fa52 {D : va_G} {cl : List vw_C} {H : Heap} {c0 c1 c2 c3 c4 c5 c6 c7 c8 c9 c10 c11 c12 c13 c14 c15 c16 c17 c18 c19 : Nat × va_E} (h : va_P D cl ([c0, c1, c2, c3, c4, c5, c6, c7, c8, c9, c10, c11, c12, c13, c14, c15, c16, c17, c18, c19]) H) : va_P D cl ([c0]) H := h.sub (ws' := [c0]) [0] rfl
theorem rgK19_5d0c76c {D : va_G} {cl : List vw_C} {U : State} {t0 t1 t2 t3 t4 t5 t6 t7 t8 t9 t10 t11 t12 t13 t14 t15 t16 t17 t18 : ClassId × FieldType} (h : va_K D cl [t0, t1, t2, t3, t4, t5, t6, t7, t8, t9, t10, t11, t12, t13, t14, t15, t16, t17, t18] U) : va_K D cl [] U := h.sub (tys' := []) [] rfl
theorem rgL20_92b1330 {c0 c1 c2 c3 c4 c5 c6 c7 c8 c9 c10 c11 c12 c13 c14 c15 c16 c17 c18 c19 : Nat × va_E} : (([c0, c1, c2, c3, c4, c5, c6, c7, c8, c9, c10, c11, c12, c13, c14, c15, c16, c17, c18, c19] : va_W))[0]? = some c0 := rfl
theorem rgD20_ec33658 {A : Nat → Prop} {c0 c1 c2 c3 c4 c5 c6 c7 c8 c9 c10 c11 c12 c13 c14 c15 c16 c17 c18 c19 : Nat × va_E} (h : va_D A ([c0, c1, c2, c3, c4, c5, c6, c7, c8, c9, c10, c11, c12, c13, c14, c15, c16, c17, c18, c19])) : va_D A ([c0]) := h.sub (ws' := [c0]) [0] (by decide +kernel) rfl
theorem rgJ20_b6a011a {A0 : Nat → Prop} {D : va_G} {cl : List vw_C} {H H1 : Heap} {c0 c1 c2 c3 c4 c5 c6 c7 c8 c9 c10 c11 c12 c13 c14 c15 c16 c17 c18 c19 : Nat × va_E} {d0 : Nat × va_E} (hP : va_P D cl ([c0, c1, c2, c3, c4, c5, c6, c7, c8, c9, c10, c11, c12, c13, c14, c15, c16, c17, c18, c19]) H) (hD : va_D A0 ([c0, c1, c2, c3, c4, c5, c6, c7, c8, c9, c10, c11, c12, c13, c14, c15, c16, c17, c18, c19])) (hk : ∀ q : Nat, q < H.size → ¬ va_A ([c0]) H.size q → H1[q]? = H[q]?) (hF : ∀ q, va_A ([c0]) H.size q → A0 q) (hP1 : va_P D cl ([d0]) H1) (hD1 : va_D (va_A ([c0]) H.size) ([d0])) : va_P D cl ([d0, c1, c2, c3, c4, c5, c6, c7, c8, c9, c10, c11, c12, c13, c14, c15, c16, c17, c18, c19]) H1 ∧ va_D A0 ([d0, c1, c2, c3, c4, c5, c6, c7, c8, c9, c10, c11, c12, c13, c14, c15, c16, c17, c18, c19]) := by
  obtain ⟨h1, h2⟩ := va_join (ws := [c0, c1, c2, c3, c4, c5, c6, c7, c8, c9, c10, c11, c12, c13, c14, c15, c16, c17, c18, c19]) (wc := [c0]) (wr := [c1, c2, c3, c4, c5, c6, c7, c8, c9, c10, c11, c12, c13, c14, c15, c16, c17, c18, c19]) (w1 := [d0]) hP hD [0] [1, 2, 3, 4, 5, 6, 7, 8, 9, 10, 11, 12, 13, 14, 15, 16, 17, 18, 19] rfl rfl (by decide +kernel) (by decide +kernel) hk hF hP1 hD1
  exact ⟨va_P.sub (ws := [c1, c2, c3, c4, c5, c6, c7, c8, c9, c10, c11, c12, c13, c14, c15, c16, c17, c18, c19, d0]) (ws' := [d0, c1, c2, c3, c4, c5, c6, c7, c8, c9, c10, c11, c12, c13, c14, c15, c16, c17, c18, c19]) h1 [19, 0, 1, 2, 3, 4, 5, 6, 7, 8, 9, 10, 11, 12, 13, 14, 15, 16, 17, 18] rfl, va_D.sub (ws := [c1, c2, c3, c4, c5, c6, c7, c8, c9, c10, c11, c12, c13, c14, c15, c16, c17, c18, c19, d0]) (ws' := [d0, c1, c2, c3, c4, c5, c6, c7, c8, c9, c10, c11, c12, c13, c14, c15, c16, c17, c18, c19]) h2 [19, 0, 1, 2, 3, 4, 5, 6, 7, 8, 9, 10, 11, 12, 13, 14, 15, 16, 17, 18] (by decide +kernel) rfl⟩
theorem rgL20_411e303 {c0 c1 c2 c3 c4 c5 c6 c7 c8 c9 c10 c11 c12 c13 c14 c15 c16 c17 c18 c19 : Nat × va_E} : (([c0, c1, c2, c3, c4, c5, c6, c7, c8, c9, c10, c11, c12, c13, c14, c15, c16, c17, c18, c19] : va_W))[5]? = some c5 := rfl
theorem rgT19_73edd8b {t0 t1 t2 t3 t4 t5 t6 t7 t8 t9 t10 t11 t12 t13 t14 t15 t16 t17 t18 : ClassId × FieldType} : (([t0, t1, t2, t3, t4, t5, t6, t7, t8, t9, t10, t11, t12, t13, t14, t15, t16, t17, t18] : List (ClassId × FieldType)))[4]? = some t4 := rfl
theorem rgP20_5ec38fa {D : va_G} {cl : List vw_C} {H : Heap} {c0 c1 c2 c3 c4 c5 c6 c7 c8 c9 c10 c11 c12 c13 c14 c15 c16 c17 c18 c19 : Nat × va_E} (h : va_P D cl ([c0, c1, c2, c3, c4, c5, c6, c7, c8, c9, c10, c11, c12, c13, c14, c15, c16, c17, c18, c19]) H) : va_P D cl ([c0, c1]) H := h.sub (ws' := [c0, c1]) [0, 1] rfl
theorem rgK19_4f62bf3 {D : va_G} {cl : List vw_C} {U : State} {t0 t1 t2 t3 t4 t5 t6 t7 t8 t9 t10 t11 t12 t13 t14 t15 t16 t17 t18 : ClassId × FieldType} (h : va_K D cl [t0, t1, t2, t3, t4, t5, t6, t7, t8, t9, t10, t11, t12, t13, t14, t15, t16, t17, t18] U) : va_K D cl [t0] U := h.sub (tys' := [t0]) [0] rfl
theorem rgD20_1e423f8 {A : Nat → Prop} {c0 c1 c2 c3 c4 c5 c6 c7 c8 c9 c10 c11 c12 c13 c14 c15 c16 c17 c18 c19 : Nat × va_E} (h : va_D A ([c0, c1, c2, c3, c4, c5, c6, c7, c8, c9, c10, c11, c12, c13, c14, c15, c16, c17, c18, c19])) : va_D A ([c0, c1]) := h.sub (ws' := [c0, c1]) [0, 1] (by decide +kernel) rfl
theorem rgJ20_0050ee0 {A0 : Nat → Prop} {D : va_G} {cl : List vw_C} {H H1 : Heap} {c0 c1 c2 c3 c4 c5 c6 c7 c8 c9 c10 c11 c12 c13 c14 c15 c16 c17 c18 c19 : Nat × va_E} {d0 d1 : Nat × va_E} (hP : va_P D cl ([c0, c1, c2, c3, c4, c5, c6, c7, c8, c9, c10, c11, c12, c13, c14, c15, c16, c17, c18, c19]) H) (hD : va_D A0 ([c0, c1, c2, c3, c4, c5, c6, c7, c8, c9, c10, c11, c12, c13, c14, c15, c16, c17, c18, c19])) (hk : ∀ q : Nat, q < H.size → ¬ va_A ([c0, c1]) H.size q → H1[q]? = H[q]?) (hF : ∀ q, va_A ([c0, c1]) H.size q → A0 q) (hP1 : va_P D cl ([d0, d1]) H1) (hD1 : va_D (va_A ([c0, c1]) H.size) ([d0, d1])) : va_P D cl ([d0, d1, c2, c3, c4, c5, c6, c7, c8, c9, c10, c11, c12, c13, c14, c15, c16, c17, c18, c19]) H1 ∧ va_D A0 ([d0, d1, c2, c3, c4, c5, c6, c7, c8, c9, c10, c11, c12, c13, c14, c15, c16, c17, c18, c19]) := by
  obtain ⟨h1, h2⟩ := va_join (ws := [c0, c1, c2, c3, c4, c5, c6, c7, c8, c9, c10, c11, c12, c13, c14, c15, c16, c17, c18, c19]) (wc := [c0, c1]) (wr := [c2, c3, c4, c5, c6, c7, c8, c9, c10, c11, c12, c13, c14, c15, c16, c17, c18, c19]) (w1 := [d0, d1]) hP hD [0, 1] [2, 3, 4, 5, 6, 7, 8, 9, 10, 11, 12, 13, 14, 15, 16, 17, 18, 19] rfl rfl (by decide +kernel) (by decide +kernel) hk hF hP1 hD1
  exact ⟨va_P.sub (ws := [c2, c3, c4, c5, c6, c7, c8, c9, c10, c11, c12, c13, c14, c15, c16, c17, c18, c19, d0, d1]) (ws' := [d0, d1, c2, c3, c4, c5, c6, c7, c8, c9, c10, c11, c12, c13, c14, c15, c16, c17, c18, c19]) h1 [18, 19, 0, 1, 2, 3, 4, 5, 6, 7, 8, 9, 10, 11, 12, 13, 14, 15, 16, 17] rfl, va_D.sub (ws := [c2, c3, c4, c5, c6, c7, c8, c9, c10, c11, c12, c13, c14, c15, c16, c17, c18, c19, d0, d1]) (ws' := [d0, d1, c2, c3, c4, c5, c6, c7, c8, c9, c10, c11, c12, c13, c14, c15, c16, c17, c18, c19]) h2 [18, 19, 0, 1, 2, 3, 4, 5, 6, 7, 8, 9, 10, 11, 12, 13, 14, 15, 16, 17] (by decide +kernel) rfl⟩
theorem rgP20_50b88ac {D : va_G} {cl : List vw_C} {H : Heap} {c0 c1 c2 c3 c4 c5 c6 c7 c8 c9 c10 c11 c12 c13 c14 c15 c16 c17 c18 c19 : Nat × va_E} (h : va_P D cl ([c0, c1, c2, c3, c4, c5, c6, c7, c8, c9, c10, c11, c12, c13, c14, c15, c16, c17, c18, c19]) H) : va_P D cl ([c0, c1, c2, c3, c4, c5, c6, c9, c11, c16, c17, c18, c19]) H := h.sub (ws' := [c0, c1, c2, c3, c4, c5, c6, c9, c11, c16, c17, c18, c19]) [0, 1, 2, 3, 4, 5, 6, 9, 11, 16, 17, 18, 19] rfl
theorem rgK19_e7519c3 {D : va_G} {cl : List vw_C} {U : State} {t0 t1 t2 t3 t4 t5 t6 t7 t8 t9 t10 t11 t12 t13 t14 t15 t16 t17 t18 : ClassId × FieldType} (h : va_K D cl [t0, t1, t2, t3, t4, t5, t6, t7, t8, t9, t10, t11, t12, t13, t14, t15, t16, t17, t18] U) : va_K D cl [t0, t1, t2, t3, t4, t5, t8, t10, t15, t16, t17, t18] U := h.sub (tys' := [t0, t1, t2, t3, t4, t5, t8, t10, t15, t16, t17, t18]) [0, 1, 2, 3, 4, 5, 8, 10, 15, 16, 17, 18] rfl
theorem rgD20_261c6cd {A : Nat → Prop} {c0 c1 c2 c3 c4 c5 c6 c7 c8 c9 c10 c11 c12 c13 c14 c15 c16 c17 c18 c19 : Nat × va_E} (h : va_D A ([c0, c1, c2, c3, c4, c5, c6, c7, c8, c9, c10, c11, c12, c13, c14, c15, c16, c17, c18, c19])) : va_D A ([c0, c1, c2, c3, c4, c5, c6, c9, c11, c16, c17, c18, c19]) := h.sub (ws' := [c0, c1, c2, c3, c4, c5, c6, c9, c11, c16, c17, c18, c19]) [0, 1, 2, 3, 4, 5, 6, 9, 11, 16, 17, 18, 19] (by decide +kernel) rfl
theorem rgJ20_abd120d {A0 : Nat → Prop} {D : va_G} {cl : List vw_C} {H H1 : Heap} {c0 c1 c2 c3 c4 c5 c6 c7 c8 c9 c10 c11 c12 c13 c14 c15 c16 c17 c18 c19 : Nat × va_E} {d0 d1 d2 d3 d4 d5 d6 d7 d8 d9 d10 d11 d12 : Nat × va_E} (hP : va_P D cl ([c0, c1, c2, c3, c4, c5, c6, c7, c8, c9, c10, c11, c12, c13, c14, c15, c16, c17, c18, c19]) H) (hD : va_D A0 ([c0, c1, c2, c3, c4, c5, c6, c7, c8, c9, c10, c11, c12, c13, c14, c15, c16, c17, c18, c19])) (hk : ∀ q : Nat, q < H.size → ¬ va_A ([c0, c1, c2, c3, c4, c5, c6, c9, c11, c16, c17, c18, c19]) H.size q → H1[q]? = H[q]?) (hF : ∀ q, va_A ([c0, c1, c2, c3, c4, c5, c6, c9, c11, c16, c17, c18, c19]) H.size q → A0 q) (hP1 : va_P D cl ([d0, d1, d2, d3, d4, d5, d6, d7, d8, d9, d10, d11, d12]) H1) (hD1 : va_D (va_A ([c0, c1, c2, c3, c4, c5, c6, c9, c11, c16, c17, c18, c19]) H.size) ([d0, d1, d2, d3, d4, d5, d6, d7, d8, d9, d10, d11, d12])) : va_P D cl ([d0, d1, d2, d3, d4, d5, d6, c7, c8, d7, c10, d8, c12, c13, c14, c15, d9, d10, d11, d12]) H1 ∧ va_D A0 ([d0, d1, d2, d3, d4, d5, d6, c7, c8, d7, c10, d8, c12, c13, c14, c15, d9, d10, d11, d12]) := by
  obtain ⟨h1, h2⟩ := va_join (ws := [c0, c1, c2, c3, c4, c5, c6, c7, c8, c9, c10, c11, c12, c13, c14, c15, c16, c17, c18, c19]) (wc := [c0, c1, c2, c3, c4, c5, c6, c9, c11, c16, c17, c18, c19]) (wr := [c7, c8, c10, c12, c13, c14, c15]) (w1 := [d0, d1, d2, d3, d4, d5, d6, d7, d8, d9, d10, d11, d12]) hP hD [0, 1, 2, 3, 4, 5, 6, 9, 11, 16, 17, 18, 19] [7, 8, 10, 12, 13, 14, 15] rfl rfl (by decide +kernel) (by decide +kernel) hk hF hP1 hD1
  exact ⟨va_P.sub (ws := [c7, c8, c10, c12, c13, c14, c15, d0, d1, d2, d3, d4, d5, d6, d7, d8, d9, d10, d11, d12]) (ws' := [d0, d1, d2, d3, d4, d5, d6, c7, c8, d7, c10, d8, c12, c13, c14, c15, d9, d10, d11, d12]) h1 [7, 8, 9, 10, 11, 12, 13, 0, 1, 14, 2, 15, 3, 4, 5, 6, 16, 17, 18, 19] rfl, va_D.sub (ws := [c7, c8, c10, c12, c13, c14, c15, d0, d1, d2, d3, d4, d5, d6, d7, d8, d9, d10, d11, d12]) (ws' := [d0, d1, d2, d3, d4, d5, d6, c7, c8, d7, c10, d8, c12, c13, c14, c15, d9, d10, d11, d12]) h2 [7, 8, 9, 10, 11, 12, 13, 0, 1, 14, 2, 15, 3, 4, 5, 6, 16, 17, 18, 19] (by decide +kernel) rfl⟩
theorem rgL20_5864d77 {c0 c1 c2 c3 c4 c5 c6 c7 c8 c9 c10 c11 c12 c13 c14 c15 c16 c17 c18 c19 : Nat × va_E} : (([c0, c1, c2, c3, c4, c5, c6, c7, c8, c9, c10, c11, c12, c13, c14, c15, c16, c17, c18, c19] : va_W))[4]? = some c4 := rfl
theorem rgT19_7765e6c {t0 t1 t2 t3 t4 t5 t6 t7 t8 t9 t10 t11 t12 t13 t14 t15 t16 t17 t18 : ClassId × FieldType} : (([t0, t1, t2, t3, t4, t5, t6, t7, t8, t9, t10, t11, t12, t13, t14, t15, t16, t17, t18] : List (ClassId × FieldType)))[3]? = some t3 := rfl
theorem rgP20_8d46461 {D : va_G} {cl : List vw_C} {H : Heap} {c0 c1 c2 c3 c4 c5 c6 c7 c8 c9 c10 c11 c12 c13 c14 c15 c16 c17 c18 c19 : Nat × va_E} (h : va_P D cl ([c0, c1, c2, c3, c4, c5, c6, c7, c8, c9, c10, c11, c12, c13, c14, c15, c16, c17, c18, c19]) H) : va_P D cl ([c0, c1, c2, c3, c4, c6, c9, c11, c12, c13, c14, c15]) H := h.sub (ws' := [c0, c1, c2, c3, c4, c6, c9, c11, c12, c13, c14, c15]) [0, 1, 2, 3, 4, 6, 9, 11, 12, 13, 14, 15] rfl
theorem rgK19_f0e5709 {D : va_G} {cl : List vw_C} {U : State} {t0 t1 t2 t3 t4 t5 t6 t7 t8 t9 t10 t11 t12 t13 t14 t15 t16 t17 t18 : ClassId × FieldType} (h : va_K D cl [t0, t1, t2, t3, t4, t5, t6, t7, t8, t9, t10, t11, t12, t13, t14, t15, t16, t17, t18] U) : va_K D cl [t0, t1, t2, t3, t5, t8, t10, t11, t12, t13, t14] U := h.sub (tys' := [t0, t1, t2, t3, t5, t8, t10, t11, t12, t13, t14]) [0, 1, 2, 3, 5, 8, 10, 11, 12, 13, 14] rfl
theorem rgD20_5c7d342 {A : Nat → Prop} {c0 c1 c2 c3 c4 c5 c6 c7 c8 c9 c10 c11 c12 c13 c14 c15 c16 c17 c18 c19 : Nat × va_E} (h : va_D A ([c0, c1, c2, c3, c4, c5, c6, c7, c8, c9, c10, c11, c12, c13, c14, c15, c16, c17, c18, c19])) : va_D A ([c0, c1, c2, c3, c4, c6, c9, c11, c12, c13, c14, c15]) := h.sub (ws' := [c0, c1, c2, c3, c4, c6, c9, c11, c12, c13, c14, c15]) [0, 1, 2, 3, 4, 6, 9, 11, 12, 13, 14, 15] (by decide +kernel) rfl
theorem rgJ20_d31fbb9 {A0 : Nat → Prop} {D : va_G} {cl : List vw_C} {H H1 : Heap} {c0 c1 c2 c3 c4 c5 c6 c7 c8 c9 c10 c11 c12 c13 c14 c15 c16 c17 c18 c19 : Nat × va_E} {d0 d1 d2 d3 d4 d5 d6 d7 d8 d9 d10 d11 : Nat × va_E} (hP : va_P D cl ([c0, c1, c2, c3, c4, c5, c6, c7, c8, c9, c10, c11, c12, c13, c14, c15, c16, c17, c18, c19]) H) (hD : va_D A0 ([c0, c1, c2, c3, c4, c5, c6, c7, c8, c9, c10, c11, c12, c13, c14, c15, c16, c17, c18, c19])) (hk : ∀ q : Nat, q < H.size → ¬ va_A ([c0, c1, c2, c3, c4, c6, c9, c11, c12, c13, c14, c15]) H.size q → H1[q]? = H[q]?) (hF : ∀ q, va_A ([c0, c1, c2, c3, c4, c6, c9, c11, c12, c13, c14, c15]) H.size q → A0 q) (hP1 : va_P D cl ([d0, d1, d2, d3, d4, d5, d6, d7, d8, d9, d10, d11]) H1) (hD1 : va_D (va_A ([c0, c1, c2, c3, c4, c6, c9, c11, c12, c13, c14, c15]) H.size) ([d0, d1, d2, d3, d4, d5, d6, d7, d8, d9, d10, d11])) : va_P D cl ([d0, d1, d2, d3, d4, c5, d5, c7, c8, d6, c10, d7, d8, d9, d10, d11, c16, c17, c18, c19]) H1 ∧ va_D A0 ([d0, d1, d2, d3, d4, c5, d5, c7, c8, d6, c10, d7, d8, d9, d10, d11, c16, c17, c18, c19]) := by
  obtain ⟨h1, h2⟩ := va_join (ws := [c0, c1, c2, c3, c4, c5, c6, c7, c8, c9, c10, c11, c12, c13, c14, c15, c16, c17, c18, c19]) (wc := [c0, c1, c2, c3, c4, c6, c9, c11, c12, c13, c14, c15]) (wr := [c5, c7, c8, c10, c16, c17, c18, c19]) (w1 := [d0, d1, d2, d3, d4, d5, d6, d7, d8, d9, d10, d11]) hP hD [0, 1, 2, 3, 4, 6, 9, 11, 12, 13, 14, 15] [5, 7, 8, 10, 16, 17, 18, 19] rfl rfl (by decide +kernel) (by decide +kernel) hk hF hP1 hD1
  exact ⟨va_P.sub (ws := [c5, c7, c8, c10, c16, c17, c18, c19, d0, d1, d2, d3, d4, d5, d6, d7, d8, d9, d10, d11]) (ws' := [d0, d1, d2, d3, d4, c5, d5, c7, c8, d6, c10, d7, d8, d9, d10, d11, c16, c17, c18, c19]) h1 [8, 9, 10, 11, 12, 0, 13, 1, 2, 14, 3, 15, 16, 17, 18, 19, 4, 5, 6, 7] rfl, va_D.sub (ws := [c5, c7, c8, c10, c16, c17, c18, c19, d0, d1, d2, d3, d4, d5, d6, d7, d8, d9, d10, d11]) (ws' := [d0, d1, d2, d3, d4, c5, d5, c7, c8, d6, c10, d7, d8, d9, d10, d11, c16, c17, c18, c19]) h2 [8, 9, 10, 11, 12, 0, 13, 1, 2, 14, 3, 15, 16, 17, 18, 19, 4, 5, 6, 7] (by decide +kernel) rfl⟩
theorem rgL20_7e6d0fc {c0 c1 c2 c3 c4 c5 c6 c7 c8 c9 c10 c11 c12 c13 c14 c15 c16 c17 c18 c19 : Nat × va_E} : (([c0, c1, c2, c3, c4, c5, c6, c7, c8, c9, c10, c11, c12, c13, c14, c15, c16, c17, c18, c19] : va_W))[3]? = some c3 := rfl
theorem rgT19_191c389 {t0 t1 t2 t3 t4 t5 t6 t7 t8 t9 t10 t11 t12 t13 t14 t15 t16 t17 t18 : ClassId × FieldType} : (([t0, t1, t2, t3, t4, t5, t6, t7, t8, t9, t10, t11, t12, t13, t14, t15, t16, t17, t18] : List (ClassId × FieldType)))[2]? = some t2 := rfl
theorem rgP20_877592a {D : va_G} {cl : List vw_C} {H : Heap} {c0 c1 c2 c3 c4 c5 c6 c7 c8 c9 c10 c11 c12 c13 c14 c15 c16 c17 c18 c19 : Nat × va_E} (h : va_P D cl ([c0, c1, c2, c3, c4, c5, c6, c7, c8, c9, c10, c11, c12, c13, c14, c15, c16, c17, c18, c19]) H) : va_P D cl ([c0, c1, c2, c3, c4, c6, c9, c10, c11]) H := h.sub (ws' := [c0, c1, c2, c3, c4, c6, c9, c10, c11]) [0, 1, 2, 3, 4, 6, 9, 10, 11] rfl
theorem rgK19_d86256b {D : va_G} {cl : List vw_C} {U : State} {t0 t1 t2 t3 t4 t5 t6 t7 t8 t9 t10 t11 t12 t13 t14 t15 t16 t17 t18 : ClassId × FieldType} (h : va_K D cl [t0, t1, t2, t3, t4, t5, t6, t7, t8, t9, t10, t11, t12, t13, t14, t15, t16, t17, t18] U) : va_K D cl [t0, t1, t2, t3, t5, t8, t9, t10] U := h.sub (tys' := [t0, t1, t2, t3, t5, t8, t9, t10]) [0, 1, 2, 3, 5, 8, 9, 10] rfl
theorem rgD20_f8d2fc6 {A : Nat → Prop} {c0 c1 c2 c3 c4 c5 c6 c7 c8 c9 c10 c11 c12 c13 c14 c15 c16 c17 c18 c19 : Nat × va_E} (h : va_D A ([c0, c1, c2, c3, c4, c5, c6, c7, c8, c9, c10, c11, c12, c13, c14, c15, c16, c17, c18, c19])) : va_D A ([c0, c1, c2, c3, c4, c6, c9, c10, c11]) := h.sub (ws' := [c0, c1, c2, c3, c4, c6, c9, c10, c11]) [0, 1, 2, 3, 4, 6, 9, 10, 11] (by decide +kernel) rfl
theorem rgJ20_6743f9c {A0 : Nat → Prop} {D : va_G} {cl : List vw_C} {H H1 : Heap} {c0 c1 c2 c3 c4 c5 c6 c7 c8 c9 c10 c11 c12 c13 c14 c15 c16 c17 c18 c19 : Nat × va_E} {d0 d1 d2 d3 d4 d5 d6 d7 d8 : Nat × va_E} (hP : va_P D cl ([c0, c1, c2, c3, c4, c5, c6, c7, c8, c9, c10, c11, c12, c13, c14, c15, c16, c17, c18, c19]) H) (hD : va_D A0 ([c0, c1, c2, c3, c4, c5, c6, c7, c8, c9, c10, c11, c12, c13, c14, c15, c16, c17, c18, c19])) (hk : ∀ q : Nat, q < H.size → ¬ va_A ([c0, c1, c2, c3, c4, c6, c9, c10, c11]) H.size q → H1[q]? = H[q]?) (hF : ∀ q, va_A ([c0, c1, c2, c3, c4, c6, c9, c10, c11]) H.size q → A0 q) (hP1 : va_P D cl ([d0, d1, d2, d3, d4, d5, d6, d7, d8]) H1) (hD1 : va_D (va_A ([c0, c1, c2, c3, c4, c6, c9, c10, c11]) H.size) ([d0, d1, d2, d3, d4, d5, d6, d7, d8])) : va_P D cl ([d0, d1, d2, d3, d4, c5, d5, c7, c8, d6, d7, d8, c12, c13, c14, c15, c16, c17, c18, c19]) H1 ∧ va_D A0 ([d0, d1, d2, d3, d4, c5, d5, c7, c8, d6, d7, d8, c12, c13, c14, c15, c16, c17, c18, c19]) := by
  obtain ⟨h1, h2⟩ := va_join (ws := [c0, c1, c2, c3, c4, c5, c6, c7, c8, c9, c10, c11, c12, c13, c14, c15, c16, c17, c18, c19]) (wc := [c0, c1, c2, c3, c4, c6, c9, c10, c11]) (wr := [c5, c7, c8, c12, c13, c14, c15, c16, c17, c18, c19]) (w1 := [d0, d1, d2, d3, d4, d5, d6, d7, d8]) hP hD [0, 1, 2, 3, 4, 6, 9, 10, 11] [5, 7, 8, 12, 13, 14, 15, 16, 17, 18, 19] rfl rfl (by decide +kernel) (by decide +kernel) hk hF hP1 hD1
  exact ⟨va_P.sub (ws := [c5, c7, c8, c12, c13, c14, c15, c16, c17, c18, c19, d0, d1, d2, d3, d4, d5, d6, d7, d8]) (ws' := [d0, d1, d2, d3, d4, c5, d5, c7, c8, d6, d7, d8, c12, c13, c14, c15, c16, c17, c18, c19]) h1 [11, 12, 13, 14, 15, 0, 16, 1, 2, 17, 18, 19, 3, 4, 5, 6, 7, 8, 9, 10] rfl, va_D.sub (ws := [c5, c7, c8, c12, c13, c14, c15, c16, c17, c18, c19, d0, d1, d2, d3, d4, d5, d6, d7, d8]) (ws' := [d0, d1, d2, d3, d4, c5, d5, c7, c8, d6, d7, d8, c12, c13, c14, c15, c16, c17, c18, c19]) h2 [11, 12, 13, 14, 15, 0, 16, 1, 2, 17, 18, 19, 3, 4, 5, 6, 7, 8, 9, 10] (by decide +kernel) rfl⟩
theorem rgL20_6a2a4dc {c0 c1 c2 c3 c4 c5 c6 c7 c8 c9 c10 c11 c12 c13 c14 c15 c16 c17 c18 c19 : Nat × va_E} : (([c0, c1, c2, c3, c4, c5, c6, c7, c8, c9, c10, c11, c12, c13, c14, c15, c16, c17, c18, c19] : va_W))[2]? = some c2 := rfl
theorem rgT19_f3f1e30 {t0 t1 t2 t3 t4 t5 t6 t7 t8 t9 t10 t11 t12 t13 t14 t15 t16 t17 t18 : ClassId × FieldType} : (([t0, t1, t2, t3, t4, t5, t6, t7, t8, t9, t10, t11, t12, t13, t14, t15, t16, t17, t18] : List (ClassId × FieldType)))[1]? = some t1 := rfl
theorem rgP20_7dce927 {D : va_G} {cl : List vw_C} {H : Heap} {c0 c1 c2 c3 c4 c5 c6 c7 c8 c9 c10 c11 c12 c13 c14 c15 c16 c17 c18 c19 : Nat × va_E} (h : va_P D cl ([c0, c1, c2, c3, c4, c5, c6, c7, c8, c9, c10, c11, c12, c13, c14, c15, c16, c17, c18, c19]) H) : va_P D cl ([c0, c1, c2, c3, c4, c6, c7, c8, c9, c11]) H := h.sub (ws' := [c0, c1, c2, c3, c4, c6, c7, c8, c9, c11]) [0, 1, 2, 3, 4, 6, 7, 8, 9, 11] rfl
theorem rgK19_22669c1 {D : va_G} {cl : List vw_C} {U : State} {t0 t1 t2 t3 t4 t5 t6 t7 t8 t9 t10 t11 t12 t13 t14 t15 t16 t17 t18 : ClassId × FieldType} (h : va_K D cl [t0, t1, t2, t3, t4, t5, t6, t7, t8, t9, t10, t11, t12, t13, t14, t15, t16, t17, t18] U) : va_K D cl [t0, t1, t2, t3, t5, t6, t7, t8, t10] U := h.sub (tys' := [t0, t1, t2, t3, t5, t6, t7, t8, t10]) [0, 1, 2, 3, 5, 6, 7, 8, 10] rfl
theorem rgD20_685a586 {A : Nat → Prop} {c0 c1 c2 c3 c4 c5 c6 c7 c8 c9 c10 c11 c12 c13 c14 c15 c16 c17 c18 c19 : Nat × va_E} (h : va_D A ([c0, c1, c2, c3, c4, c5, c6, c7, c8, c9, c10, c11, c12, c13, c14, c15, c16, c17, c18, c19])) : va_D A ([c0, c1, c2, c3, c4, c6, c7, c8, c9, c11]) := h.sub (ws' := [c0, c1, c2, c3, c4, c6, c7, c8, c9, c11]) [0, 1, 2, 3, 4, 6, 7, 8, 9, 11] (by decide +kernel) rfl
theorem rgJ20_cca30bf {A0 : Nat → Prop} {D : va_G} {cl : List vw_C} {H H1 : Heap} {c0 c1 c2 c3 c4 c5 c6 c7 c8 c9 c10 c11 c12 c13 c14 c15 c16 c17 c18 c19 : Nat × va_E} {d0 d1 d2 d3 d4 d5 d6 d7 d8 d9 : Nat × va_E} (hP : va_P D cl ([c0, c1, c2, c3, c4, c5, c6, c7, c8, c9, c10, c11, c12, c13, c14, c15, c16, c17, c18, c19]) H) (hD : va_D A0 ([c0, c1, c2, c3, c4, c5, c6, c7, c8, c9, c10, c11, c12, c13, c14, c15, c16, c17, c18, c19])) (hk : ∀ q : Nat, q < H.size → ¬ va_A ([c0, c1, c2, c3, c4, c6, c7, c8, c9, c11]) H.size q → H1[q]? = H[q]?) (hF : ∀ q, va_A ([c0, c1, c2, c3, c4, c6, c7, c8, c9, c11]) H.size q → A0 q) (hP1 : va_P D cl ([d0, d1, d2, d3, d4, d5, d6, d7, d8, d9]) H1) (hD1 : va_D (va_A ([c0, c1, c2, c3, c4, c6, c7, c8, c9, c11]) H.size) ([d0, d1, d2, d3, d4, d5, d6, d7, d8, d9])) : va_P D cl ([d0, d1, d2, d3, d4, c5, d5, d6, d7, d8, c10, d9, c12, c13, c14, c15, c16, c17, c18, c19]) H1 ∧ va_D A0 ([d0, d1, d2, d3, d4, c5, d5, d6, d7, d8, c10, d9, c12, c13, c14, c15, c16, c17, c18, c19]) := by
  obtain ⟨h1, h2⟩ := va_join (ws := [c0, c1, c2, c3, c4, c5, c6, c7, c8, c9, c10, c11, c12, c13, c14, c15, c16, c17, c18, c19]) (wc := [c0, c1, c2, c3, c4, c6, c7, c8, c9, c11]) (wr := [c5, c10, c12, c13, c14, c15, c16, c17, c18, c19]) (w1 := [d0, d1, d2, d3, d4, d5, d6, d7, d8, d9]) hP hD [0, 1, 2, 3, 4, 6, 7, 8, 9, 11] [5, 10, 12, 13, 14, 15, 16, 17, 18, 19] rfl rfl (by decide +kernel) (by decide +kernel) hk hF hP1 hD1
  exact ⟨va_P.sub (ws := [c5, c10, c12, c13, c14, c15, c16, c17, c18, c19, d0, d1, d2, d3, d4, d5, d6, d7, d8, d9]) (ws' := [d0, d1, d2, d3, d4, c5, d5, d6, d7, d8, c10, d9, c12, c13, c14, c15, c16, c17, c18, c19]) h1 [10, 11, 12, 13, 14, 0, 15, 16, 17, 18, 1, 19, 2, 3, 4, 5, 6, 7, 8, 9] rfl, va_D.sub (ws := [c5, c10, c12, c13, c14, c15, c16, c17, c18, c19, d0, d1, d2, d3, d4, d5, d6, d7, d8, d9]) (ws' := [d0, d1, d2, d3, d4, c5, d5, d6, d7, d8, c10, d9, c12, c13, c14, c15, c16, c17, c18, c19]) h2 [10, 11, 12, 13, 14, 0, 15, 16, 17, 18, 1, 19, 2, 3, 4, 5, 6, 7, 8, 9] (by decide +kernel) rfl⟩
theorem rgL20_98b9408 {c0 c1 c2 c3 c4 c5 c6 c7 c8 c9 c10 c11 c12 c13 c14 c15 c16 c17 c18 c19 : Nat × va_E} : (([c0, c1, c2, c3, c4, c5, c6, c7, c8, c9, c10, c11, c12, c13, c14, c15, c16, c17, c18, c19] : va_W))[1]? = some c1 := rfl
theorem rgT19_eec4934 {t0 t1 t2 t3 t4 t5 t6 t7 t8 t9 t10 t11 t12 t13 t14 t15 t16 t17 t18 : ClassId × FieldType} : (([t0, t1, t2, t3, t4, t5, t6, t7, t8, t9, t10, t11, t12, t13, t14, t15, t16, t17, t18] : List (ClassId × FieldType)))[0]? = some t0 := rfl
theorem rgS20_01a71e7 {A : Nat → Prop} {D : va_G} {cl : List vw_C} {H : Heap} {c0 c1 c2 c3 c4 c5 c6 c7 c8 c9 c10 c11 c12 c13 c14 c15 c16 c17 c18 c19 : Nat × va_E} {d e : Nat × va_E} (hP : va_P D cl (([c0, c1, c2, c3, c4, c5, c6, c7, c8, c9, c10, c11, c12, c13, c14, c15, c16, c17, c18, c19]).set 1 d) H) (hD : va_D A (([c0, c1, c2, c3, c4, c5, c6, c7, c8, c9, c10, c11, c12, c13, c14, c15, c16, c17, c18, c19]).set 1 d)) (h : d = e) : va_P D cl ([c0, e, c2, c3, c4, c5, c6, c7, c8, c9, c10, c11, c12, c13, c14, c15, c16, c17, c18, c19]) H ∧ va_D A ([c0, e, c2, c3, c4, c5, c6, c7, c8, c9, c10, c11, c12, c13, c14, c15, c16, c17, c18, c19]) := by subst h; exact ⟨hP, hD⟩
theorem rgS20_0ab377a {A : Nat → Prop} {D : va_G} {cl : List vw_C} {H : Heap} {c0 c1 c2 c3 c4 c5 c6 c7 c8 c9 c10 c11 c12 c13 c14 c15 c16 c17 c18 c19 : Nat × va_E} {d e : Nat × va_E} (hP : va_P D cl (([c0, c1, c2, c3, c4, c5, c6, c7, c8, c9, c10, c11, c12, c13, c14, c15, c16, c17, c18, c19]).set 2 d) H) (hD : va_D A (([c0, c1, c2, c3, c4, c5, c6, c7, c8, c9, c10, c11, c12, c13, c14, c15, c16, c17, c18, c19]).set 2 d)) (h : d = e) : va_P D cl ([c0, c1, e, c3, c4, c5, c6, c7, c8, c9, c10, c11, c12, c13, c14, c15, c16, c17, c18, c19]) H ∧ va_D A ([c0, c1, e, c3, c4, c5, c6, c7, c8, c9, c10, c11, c12, c13, c14, c15, c16, c17, c18, c19]) := by subst h; exact ⟨hP, hD⟩
theorem rgS20_db1d2b0 {A : Nat → Prop} {D : va_G} {cl : List vw_C} {H : Heap} {c0 c1 c2 c3 c4 c5 c6 c7 c8 c9 c10 c11 c12 c13 c14 c15 c16 c17 c18 c19 : Nat × va_E} {d e : Nat × va_E} (hP : va_P D cl (([c0, c1, c2, c3, c4, c5, c6, c7, c8, c9, c10, c11, c12, c13, c14, c15, c16, c17, c18, c19]).set 3 d) H) (hD : va_D A (([c0, c1, c2, c3, c4, c5, c6, c7, c8, c9, c10, c11, c12, c13, c14, c15, c16, c17, c18, c19]).set 3 d)) (h : d = e) : va_P D cl ([c0, c1, c2, e, c4, c5, c6, c7, c8, c9, c10, c11, c12, c13, c14, c15, c16, c17, c18, c19]) H ∧ va_D A ([c0, c1, c2, e, c4, c5, c6, c7, c8, c9, c10, c11, c12, c13, c14, c15, c16, c17, c18, c19]) := by subst h; exact ⟨hP, hD⟩
theorem rgS20_3493c29 {A : Nat → Prop} {D : va_G} {cl : List vw_C} {H : Heap} {c0 c1 c2 c3 c4 c5 c6 c7 c8 c9 c10 c11 c12 c13 c14 c15 c16 c17 c18 c19 : Nat × va_E} {d e : Nat × va_E} (hP : va_P D cl (([c0, c1, c2, c3, c4, c5, c6, c7, c8, c9, c10, c11, c12, c13, c14, c15, c16, c17, c18, c19]).set 4 d) H) (hD : va_D A (([c0, c1, c2, c3, c4, c5, c6, c7, c8, c9, c10, c11, c12, c13, c14, c15, c16, c17, c18, c19]).set 4 d)) (h : d = e) : va_P D cl ([c0, c1, c2, c3, e, c5, c6, c7, c8, c9, c10, c11, c12, c13, c14, c15, c16, c17, c18, c19]) H ∧ va_D A ([c0, c1, c2, c3, e, c5, c6, c7, c8, c9, c10, c11, c12, c13, c14, c15, c16, c17, c18, c19]) := by subst h; exact ⟨hP, hD⟩
theorem rgL20_2e0ba9c {c0 c1 c2 c3 c4 c5 c6 c7 c8 c9 c10 c11 c12 c13 c14 c15 c16 c17 c18 c19 : Nat × va_E} : (([c0, c1, c2, c3, c4, c5, c6, c7, c8, c9, c10, c11, c12, c13, c14, c15, c16, c17, c18, c19] : va_W))[15]? = some c15 := rfl
theorem rgT19_bec2977 {t0 t1 t2 t3 t4 t5 t6 t7 t8 t9 t10 t11 t12 t13 t14 t15 t16 t17 t18 : ClassId × FieldType} : (([t0, t1, t2, t3, t4, t5, t6, t7, t8, t9, t10, t11, t12, t13, t14, t15, t16, t17, t18] : List (ClassId × FieldType)))[14]? = some t14 := rfl
theorem rgS20_ad1e417 {A : Nat → Prop} {D : va_G} {cl : List vw_C} {H : Heap} {c0 c1 c2 c3 c4 c5 c6 c7 c8 c9 c10 c11 c12 c13 c14 c15 c16 c17 c18 c19 : Nat × va_E} {d e : Nat × va_E} (hP : va_P D cl (([c0, c1, c2, c3, c4, c5, c6, c7, c8, c9, c10, c11, c12, c13, c14, c15, c16, c17, c18, c19]).set 15 d) H) (hD : va_D A (([c0, c1, c2, c3, c4, c5, c6, c7, c8, c9, c10, c11, c12, c13, c14, c15, c16, c17, c18, c19]).set 15 d)) (h : d = e) : va_P D cl ([c0, c1, c2, c3, c4, c5, c6, c7, c8, c9, c10, c11, c12, c13, c14, e, c16, c17, c18, c19]) H ∧ va_D A ([c0, c1, c2, c3, c4, c5, c6, c7, c8, c9, c10, c11, c12, c13, c14, e, c16, c17, c18, c19]) := by subst h; exact ⟨hP, hD⟩
theorem rgL20_aab71df {c0 c1 c2 c3 c4 c5 c6 c7 c8 c9 c10 c11 c12 c13 c14 c15 c16 c17 c18 c19 : Nat × va_E} : (([c0, c1, c2, c3, c4, c5, c6, c7, c8, c9, c10, c11, c12, c13, c14, c15, c16, c17, c18, c19] : va_W))[16]? = some c16 := rfl
theorem rgT19_0339bd1 {t0 t1 t2 t3 t4 t5 t6 t7 t8 t9 t10 t11 t12 t13 t14 t15 t16 t17 t18 : ClassId × FieldType} : (([t0, t1, t2, t3, t4, t5, t6, t7, t8, t9, t10, t11, t12, t13, t14, t15, t16, t17, t18] : List (ClassId × FieldType)))[15]? = some t15 := rfl
theorem rgS20_3428cc9 {A : Nat → Prop} {D : va_G} {cl : List vw_C} {H : Heap} {c0 c1 c2 c3 c4 c5 c6 c7 c8 c9 c10 c11 c12 c13 c14 c15 c16 c17 c18 c19 : Nat × va_E} {d e : Nat × va_E} (hP : va_P D cl (([c0, c1, c2, c3, c4, c5, c6, c7, c8, c9, c10, c11, c12, c13, c14, c15, c16, c17, c18, c19]).set 16 d) H) (hD : va_D A (([c0, c1, c2, c3, c4, c5, c6, c7, c8, c9, c10, c11, c12, c13, c14, c15, c16, c17, c18, c19]).set 16 d)) (h : d = e) : va_P D cl ([c0, c1, c2, c3, c4, c5, c6, c7, c8, c9, c10, c11, c12, c13, c14, c15, e, c17, c18, c19]) H ∧ va_D A ([c0, c1, c2, c3, c4, c5, c6, c7, c8, c9, c10, c11, c12, c13, c14, c15, e, c17, c18, c19]) := by subst h; exact ⟨hP, hD⟩
theorem rgL20_83ed5d7 {c0 c1 c2 c3 c4 c5 c6 c7 c8 c9 c10 c11 c12 c13 c14 c15 c16 c17 c18 c19 : Nat × va_E} : (([c0, c1, c2, c3, c4, c5, c6, c7, c8, c9, c10, c11, c12, c13, c14, c15, c16, c17, c18, c19] : va_W))[18]? = some c18 := rfl
theorem rgT19_08d11fe {t0 t1 t2 t3 t4 t5 t6 t7 t8 t9 t10 t11 t12 t13 t14 t15 t16 t17 t18 : ClassId × FieldType} : (([t0, t1, t2, t3, t4, t5, t6, t7, t8, t9, t10, t11, t12, t13, t14, t15, t16, t17, t18] : List (ClassId × FieldType)))[17]? = some t17 := rfl
theorem rgS20_136840b {A : Nat → Prop} {D : va_G} {cl : List vw_C} {H : Heap} {c0 c1 c2 c3 c4 c5 c6 c7 c8 c9 c10 c11 c12 c13 c14 c15 c16 c17 c18 c19 : Nat × va_E} {d e : Nat × va_E} (hP : va_P D cl (([c0, c1, c2, c3, c4, c5, c6, c7, c8, c9, c10, c11, c12, c13, c14, c15, c16, c17, c18, c19]).set 18 d) H) (hD : va_D A (([c0, c1, c2, c3, c4, c5, c6, c7, c8, c9, c10, c11, c12, c13, c14, c15, c16, c17, c18, c19]).set 18 d)) (h : d = e) : va_P D cl ([c0, c1, c2, c3, c4, c5, c6, c7, c8, c9, c10, c11, c12, c13, c14, c15, c16, c17, e, c19]) H ∧ va_D A ([c0, c1, c2, c3, c4, c5, c6, c7, c8, c9, c10, c11, c12, c13, c14, c15, c16, c17, e, c19]) := by subst h; exact ⟨hP, hD⟩
theorem rgL20_1a9ed69 {c0 c1 c2 c3 c4 c5 c6 c7 c8 c9 c10 c11 c12 c13 c14 c15 c16 c17 c18 c19 : Nat × va_E} : (([c0, c1, c2, c3, c4, c5, c6, c7, c8, c9, c10, c11, c12, c13, c14, c15, c16, c17, c18, c19] : va_W))[19]? = some c19 := rfl
theorem rgT19_50760a5 {t0 t1 t2 t3 t4 t5 t6 t7 t8 t9 t10 t11 t12 t13 t14 t15 t16 t17 t18 : ClassId × FieldType} : (([t0, t1, t2, t3, t4, t5, t6, t7, t8, t9, t10, t11, t12, t13, t14, t15, t16, t17, t18] : List (ClassId × FieldType)))[18]? = some t18 := rfl
theorem rgS20_c0590b9 {A : Nat → Prop} {D : va_G} {cl : List vw_C} {H : Heap} {c0 c1 c2 c3 c4 c5 c6 c7 c8 c9 c10 c11 c12 c13 c14 c15 c16 c17 c18 c19 : Nat × va_E} {d e : Nat × va_E} (hP : va_P D cl (([c0, c1, c2, c3, c4, c5, c6, c7, c8, c9, c10, c11, c12, c13, c14, c15, c16, c17, c18, c19]).set 19 d) H) (hD : va_D A (([c0, c1, c2, c3, c4, c5, c6, c7, c8, c9, c10, c11, c12, c13, c14, c15, c16, c17, c18, c19]).set 19 d)) (h : d = e) : va_P D cl ([c0, c1, c2, c3, c4, c5, c6, c7, c8, c9, c10, c11, c12, c13, c14, c15, c16, c17, c18, e]) H ∧ va_D A ([c0, c1, c2, c3, c4, c5, c6, c7, c8, c9, c10, c11, c12, c13, c14, c15, c16, c17, c18, e]) := by subst h; exact ⟨hP, hD⟩
theorem rgL20_aa7134e {c0 c1 c2 c3 c4 c5 c6 c7 c8 c9 c10 c11 c12 c13 c14 c15 c16 c17 c18 c19 : Nat × va_E} : (([c0, c1, c2, c3, c4, c5, c6, c7, c8, c9, c10, c11, c12, c13, c14, c15, c16, c17, c18, c19] : va_W))[17]? = some c17 := rfl
theorem rgT19_6defc39 {t0 t1 t2 t3 t4 t5 t6 t7 t8 t9 t10 t11 t12 t13 t14 t15 t16 t17 t18 : ClassId × FieldType} : (([t0, t1, t2, t3, t4, t5, t6, t7, t8, t9, t10, t11, t12, t13, t14, t15, t16, t17, t18] : List (ClassId × FieldType)))[16]? = some t16 := rfl
theorem rgS20_d676ddc {A : Nat → Prop} {D : va_G} {cl : List vw_C} {H : Heap} {c0 c1 c2 c3 c4 c5 c6 c7 c8 c9 c10 c11 c12 c13 c14 c15 c16 c17 c18 c19 : Nat × va_E} {d e : Nat × va_E} (hP : va_P D cl (([c0, c1, c2, c3, c4, c5, c6, c7, c8, c9, c10, c11, c12, c13, c14, c15, c16, c17, c18, c19]).set 17 d) H) (hD : va_D A (([c0, c1, c2, c3, c4, c5, c6, c7, c8, c9, c10, c11, c12, c13, c14, c15, c16, c17, c18, c19]).set 17 d)) (h : d = e) : va_P D cl ([c0, c1, c2, c3, c4, c5, c6, c7, c8, c9, c10, c11, c12, c13, c14, c15, c16, e, c18, c19]) H ∧ va_D A ([c0, c1, c2, c3, c4, c5, c6, c7, c8, c9, c10, c11, c12, c13, c14, c15, c16, e, c18, c19]) := by subst h; exact ⟨hP, hD⟩
theorem rgL20_93d7cc0 {c0 c1 c2 c3 c4 c5 c6 c7 c8 c9 c10 c11 c12 c13 c14 c15 c16 c17 c18 c19 : Nat × va_E} : (([c0, c1, c2, c3, c4, c5, c6, c7, c8, c9, c10, c11, c12, c13, c14, c15, c16, c17, c18, c19] : va_W))[10]? = some c10 := rfl
theorem rgT19_dfef25e {t0 t1 t2 t3 t4 t5 t6 t7 t8 t9 t10 t11 t12 t13 t14 t15 t16 t17 t18 : ClassId × FieldType} : (([t0, t1, t2, t3, t4, t5, t6, t7, t8, t9, t10, t11, t12, t13, t14, t15, t16, t17, t18] : List (ClassId × FieldType)))[9]? = some t9 := rfl
theorem rgS20_78105c8 {A : Nat → Prop} {D : va_G} {cl : List vw_C} {H : Heap} {c0 c1 c2 c3 c4 c5 c6 c7 c8 c9 c10 c11 c12 c13 c14 c15 c16 c17 c18 c19 : Nat × va_E} {d e : Nat × va_E} (hP : va_P D cl (([c0, c1, c2, c3, c4, c5, c6, c7, c8, c9, c10, c11, c12, c13, c14, c15, c16, c17, c18, c19]).set 10 d) H) (hD : va_D A (([c0, c1, c2, c3, c4, c5, c6, c7, c8, c9, c10, c11, c12, c13, c14, c15, c16, c17, c18, c19]).set 10 d)) (h : d = e) : va_P D cl ([c0, c1, c2, c3, c4, c5, c6, c7, c8, c9, e, c11, c12, c13, c14, c15, c16, c17, c18, c19]) H ∧ va_D A ([c0, c1, c2, c3, c4, c5, c6, c7, c8, c9, e, c11, c12, c13, c14, c15, c16, c17, c18, c19]) := by subst h; exact ⟨hP, hD⟩
theorem rgL20_8e7598e {c0 c1 c2 c3 c4 c5 c6 c7 c8 c9 c10 c11 c12 c13 c14 c15 c16 c17 c18 c19 : Nat × va_E} : (([c0, c1, c2, c3, c4, c5, c6, c7, c8, c9, c10, c11, c12, c13, c14, c15, c16, c17, c18, c19] : va_W))[11]? = some c11 := rfl
theorem rgT19_f816c9a {t0 t1 t2 t3 t4 t5 t6 t7 t8 t9 t10 t11 t12 t13 t14 t15 t16 t17 t18 : ClassId × FieldType} : (([t0, t1, t2, t3, t4, t5, t6, t7, t8, t9, t10, t11, t12, t13, t14, t15, t16, t17, t18] : List (ClassId × FieldType)))[10]? = some t10 := rfl
theorem rgL20_d380c3c {c0 c1 c2 c3 c4 c5 c6 c7 c8 c9 c10 c11 c12 c13 c14 c15 c16 c17 c18 c19 : Nat × va_E} : (([c0, c1, c2, c3, c4, c5, c6, c7, c8, c9, c10, c11, c12, c13, c14, c15, c16, c17, c18, c19] : va_W))[12]? = some c12 := rfl
theorem rgT19_5ec770f {t0 t1 t2 t3 t4 t5 t6 t7 t8 t9 t10 t11 t12 t13 t14 t15 t16 t17 t18 : ClassId × FieldType} : (([t0, t1, t2, t3, t4, t5, t6, t7, t8, t9, t10, t11, t12, t13, t14, t15, t16, t17, t18] : List (ClassId × FieldType)))[11]? = some t11 := rfl
theorem rgS20_3a23334 {A : Nat → Prop} {D : va_G} {cl : List vw_C} {H : Heap} {c0 c1 c2 c3 c4 c5 c6 c7 c8 c9 c10 c11 c12 c13 c14 c15 c16 c17 c18 c19 : Nat × va_E} {d e : Nat × va_E} (hP : va_P D cl (([c0, c1, c2, c3, c4, c5, c6, c7, c8, c9, c10, c11, c12, c13, c14, c15, c16, c17, c18, c19]).set 12 d) H) (hD : va_D A (([c0, c1, c2, c3, c4, c5, c6, c7, c8, c9, c10, c11, c12, c13, c14, c15, c16, c17, c18, c19]).set 12 d)) (h : d = e) : va_P D cl ([c0, c1, c2, c3, c4, c5, c6, c7, c8, c9, c10, c11, e, c13, c14, c15, c16, c17, c18, c19]) H ∧ va_D A ([c0, c1, c2, c3, c4, c5, c6, c7, c8, c9, c10, c11, e, c13, c14, c15, c16, c17, c18, c19]) := by subst h; exact ⟨hP, hD⟩
theorem rgL20_985a49d {c0 c1 c2 c3 c4 c5 c6 c7 c8 c9 c10 c11 c12 c13 c14 c15 c16 c17 c18 c19 : Nat × va_E} : (([c0, c1, c2, c3, c4, c5, c6, c7, c8, c9, c10, c11, c12, c13, c14, c15, c16, c17, c18, c19] : va_W))[13]? = some c13 := rfl
theorem rgT19_442d6e7 {t0 t1 t2 t3 t4 t5 t6 t7 t8 t9 t10 t11 t12 t13 t14 t15 t16 t17 t18 : ClassId × FieldType} : (([t0, t1, t2, t3, t4, t5, t6, t7, t8, t9, t10, t11, t12, t13, t14, t15, t16, t17, t18] : List (ClassId × FieldType)))[12]? = some t12 := rfl
theorem rgS20_cee6227 {A : Nat → Prop} {D : va_G} {cl : List vw_C} {H : Heap} {c0 c1 c2 c3 c4 c5 c6 c7 c8 c9 c10 c11 c12 c13 c14 c15 c16 c17 c18 c19 : Nat × va_E} {d e : Nat × va_E} (hP : va_P D cl (([c0, c1, c2, c3, c4, c5, c6, c7, c8, c9, c10, c11, c12, c13, c14, c15, c16, c17, c18, c19]).set 13 d) H) (hD : va_D A (([c0, c1, c2, c3, c4, c5, c6, c7, c8, c9, c10, c11, c12, c13, c14, c15, c16, c17, c18, c19]).set 13 d)) (h : d = e) : va_P D cl ([c0, c1, c2, c3, c4, c5, c6, c7, c8, c9, c10, c11, c12, e, c14, c15, c16, c17, c18, c19]) H ∧ va_D A ([c0, c1, c2, c3, c4, c5, c6, c7, c8, c9, c10, c11, c12, e, c14, c15, c16, c17, c18, c19]) := by subst h; exact ⟨hP, hD⟩
theorem rgL20_db22842 {c0 c1 c2 c3 c4 c5 c6 c7 c8 c9 c10 c11 c12 c13 c14 c15 c16 c17 c18 c19 : Nat × va_E} : (([c0, c1, c2, c3, c4, c5, c6, c7, c8, c9, c10, c11, c12, c13, c14, c15, c16, c17, c18, c19] : va_W))[14]? = some c14 := rfl
theorem rgT19_f7bb8bd {t0 t1 t2 t3 t4 t5 t6 t7 t8 t9 t10 t11 t12 t13 t14 t15 t16 t17 t18 : ClassId × FieldType} : (([t0, t1, t2, t3, t4, t5, t6, t7, t8, t9, t10, t11, t12, t13, t14, t15, t16, t17, t18] : List (ClassId × FieldType)))[13]? = some t13 := rfl
theorem rgS20_13c4b3f {A : Nat → Prop} {D : va_G} {cl : List vw_C} {H : Heap} {c0 c1 c2 c3 c4 c5 c6 c7 c8 c9 c10 c11 c12 c13 c14 c15 c16 c17 c18 c19 : Nat × va_E} {d e : Nat × va_E} (hP : va_P D cl (([c0, c1, c2, c3, c4, c5, c6, c7, c8, c9, c10, c11, c12, c13, c14, c15, c16, c17, c18, c19]).set 14 d) H) (hD : va_D A (([c0, c1, c2, c3, c4, c5, c6, c7, c8, c9, c10, c11, c12, c13, c14, c15, c16, c17, c18, c19]).set 14 d)) (h : d = e) : va_P D cl ([c0, c1, c2, c3, c4, c5, c6, c7, c8, c9, c10, c11, c12, c13, e, c15, c16, c17, c18, c19]) H ∧ va_D A ([c0, c1, c2, c3, c4, c5, c6, c7, c8, c9, c10, c11, c12, c13, e, c15, c16, c17, c18, c19]) := by subst h; exact ⟨hP, hD⟩
theorem rgL20_4b87b17 {c0 c1 c2 c3 c4 c5 c6 c7 c8 c9 c10 c11 c12 c13 c14 c15 c16 c17 c18 c19 : Nat × va_E} : (([c0, c1, c2, c3, c4, c5, c6, c7, c8, c9, c10, c11, c12, c13, c14, c15, c16, c17, c18, c19] : va_W))[8]? = some c8 := rfl
theorem rgT19_33ed7b7 {t0 t1 t2 t3 t4 t5 t6 t7 t8 t9 t10 t11 t12 t13 t14 t15 t16 t17 t18 : ClassId × FieldType} : (([t0, t1, t2, t3, t4, t5, t6, t7, t8, t9, t10, t11, t12, t13, t14, t15, t16, t17, t18] : List (ClassId × FieldType)))[7]? = some t7 := rfl
theorem rgS20_0a675b7 {A : Nat → Prop} {D : va_G} {cl : List vw_C} {H : Heap} {c0 c1 c2 c3 c4 c5 c6 c7 c8 c9 c10 c11 c12 c13 c14 c15 c16 c17 c18 c19 : Nat × va_E} {d e : Nat × va_E} (hP : va_P D cl (([c0, c1, c2, c3, c4, c5, c6, c7, c8, c9, c10, c11, c12, c13, c14, c15, c16, c17, c18, c19]).set 8 d) H) (hD : va_D A (([c0, c1, c2, c3, c4, c5, c6, c7, c8, c9, c10, c11, c12, c13, c14, c15, c16, c17, c18, c19]).set 8 d)) (h : d = e) : va_P D cl ([c0, c1, c2, c3, c4, c5, c6, c7, e, c9, c10, c11, c12, c13, c14, c15, c16, c17, c18, c19]) H ∧ va_D A ([c0, c1, c2, c3, c4, c5, c6, c7, e, c9, c10, c11, c12, c13, c14, c15, c16, c17, c18, c19]) := by subst h; exact ⟨hP, hD⟩
theorem rgL20_8dcf85c {c0 c1 c2 c3 c4 c5 c6 c7 c8 c9 c10 c11 c12 c13 c14 c15 c16 c17 c18 c19 : Nat × va_E} : (([c0, c1, c2, c3, c4, c5, c6, c7, c8, c9, c10, c11, c12, c13, c14, c15, c16, c17, c18, c19] : va_W))[9]? = some c9 := rfl
theorem rgT19_24c9316 {t0 t1 t2 t3 t4 t5 t6 t7 t8 t9 t10 t11 t12 t13 t14 t15 t16 t17 t18 : ClassId × FieldType} : (([t0, t1, t2, t3, t4, t5, t6, t7, t8, t9, t10, t11, t12, t13, t14, t15, t16, t17, t18] : List (ClassId × FieldType)))[8]? = some t8 := rfl
theorem rgS20_caef012 {A : Nat → Prop} {D : va_G} {cl : List vw_C} {H : Heap} {c0 c1 c2 c3 c4 c5 c6 c7 c8 c9 c10 c11 c12 c13 c14 c15 c16 c17 c18 c19 : Nat × va_E} {d e : Nat × va_E} (hP : va_P D cl (([c0, c1, c2, c3, c4, c5, c6, c7, c8, c9, c10, c11, c12, c13, c14, c15, c16, c17, c18, c19]).set 9 d) H) (hD : va_D A (([c0, c1, c2, c3, c4, c5, c6, c7, c8, c9, c10, c11, c12, c13, c14, c15, c16, c17, c18, c19]).set 9 d)) (h : d = e) : va_P D cl ([c0, c1, c2, c3, c4, c5, c6, c7, c8, e, c10, c11, c12, c13, c14, c15, c16, c17, c18, c19]) H ∧ va_D A ([c0, c1, c2, c3, c4, c5, c6, c7, c8, e, c10, c11, c12, c13, c14, c15, c16, c17, c18, c19]) := by subst h; exact ⟨hP, hD⟩
theorem rgS20_5edf87e {A : Nat → Prop} {D : va_G} {cl : List vw_C} {H : Heap} {c0 c1 c2 c3 c4 c5 c6 c7 c8 c9 c10 c11 c12 c13 c14 c15 c16 c17 c18 c19 : Nat × va_E} {d e : Nat × va_E} (hP : va_P D cl (([c0, c1, c2, c3, c4, c5, c6, c7, c8, c9, c10, c11, c12, c13, c14, c15, c16, c17, c18, c19]).set 5 d) H) (hD : va_D A (([c0, c1, c2, c3, c4, c5, c6, c7, c8, c9, c10, c11, c12, c13, c14, c15, c16, c17, c18, c19]).set 5 d)) (h : d = e) : va_P D cl ([c0, c1, c2, c3, c4, e, c6, c7, c8, c9, c10, c11, c12, c13, c14, c15, c16, c17, c18, c19]) H ∧ va_D A ([c0, c1, c2, c3, c4, e, c6, c7, c8, c9, c10, c11, c12, c13, c14, c15, c16, c17, c18, c19]) := by subst h; exact ⟨hP, hD⟩
theorem rgL20_bbab9ba {c0 c1 c2 c3 c4 c5 c6 c7 c8 c9 c10 c11 c12 c13 c14 c15 c16 c17 c18 c19 : Nat × va_E} : (([c0, c1, c2, c3, c4, c5, c6, c7, c8, c9, c10, c11, c12, c13, c14, c15, c16, c17, c18, c19] : va_W))[6]? = some c6 := rfl
theorem rgT19_d356512 {t0 t1 t2 t3 t4 t5 t6 t7 t8 t9 t10 t11 t12 t13 t14 t15 t16 t17 t18 : ClassId × FieldType} : (([t0, t1, t2, t3, t4, t5, t6, t7, t8, t9, t10, t11, t12, t13, t14, t15, t16, t17, t18] : List (ClassId × FieldType)))[5]? = some t5 := rfl
theorem rgS20_1a084c6 {A : Nat → Prop} {D : va_G} {cl : List vw_C} {H : Heap} {c0 c1 c2 c3 c4 c5 c6 c7 c8 c9 c10 c11 c12 c13 c14 c15 c16 c17 c18 c19 : Nat × va_E} {d e : Nat × va_E} (hP : va_P D cl (([c0, c1, c2, c3, c4, c5, c6, c7, c8, c9, c10, c11, c12, c13, c14, c15, c16, c17, c18, c19]).set 6 d) H) (hD : va_D A (([c0, c1, c2, c3, c4, c5, c6, c7, c8, c9, c10, c11, c12, c13, c14, c15, c16, c17, c18, c19]).set 6 d)) (h : d = e) : va_P D cl ([c0, c1, c2, c3, c4, c5, e, c7, c8, c9, c10, c11, c12, c13, c14, c15, c16, c17, c18, c19]) H ∧ va_D A ([c0, c1, c2, c3, c4, c5, e, c7, c8, c9, c10, c11, c12, c13, c14, c15, c16, c17, c18, c19]) := by subst h; exact ⟨hP, hD⟩
theorem rgL20_c9dc12e {c0 c1 c2 c3 c4 c5 c6 c7 c8 c9 c10 c11 c12 c13 c14 c15 c16 c17 c18 c19 : Nat × va_E} : (([c0, c1, c2, c3, c4, c5, c6, c7, c8, c9, c10, c11, c12, c13, c14, c15, c16, c17, c18, c19] : va_W))[7]? = some c7 := rfl
theorem rgT19_2ad4898 {t0 t1 t2 t3 t4 t5 t6 t7 t8 t9 t10 t11 t12 t13 t14 t15 t16 t17 t18 : ClassId × FieldType} : (([t0, t1, t2, t3, t4, t5, t6, t7, t8, t9, t10, t11, t12, t13, t14, t15, t16, t17, t18] : List (ClassId × FieldType)))[6]? = some t6 := rfl
set_option maxHeartbeats 4000000 in
set_option maxRecDepth 100000 in
theorem k_X9_lineHere (l : Launch) (dC : Nat → ClassId) (dI : Nat → Nat → Nat) (g : Gv) (sz : Nat) (a0 : Nat) (a0_0 : Int32) (a0_1 : Int32) (a0_2 : Int32) (a0_3 : Int32) (a0_4 : Nat) (a0_5 : Int32) (a0_6 : Int32) (a0_7 : Int32) (a0_8 : Int32) (a0_9 : Int32) (a0_10 : Int32) (a0_11 : Int64) (a0_12 : Int32) (a0_13 : Int32) (a0_14 : Int32) (a0_15 : Int32) (a0_16 : Int32) (a0_17 : Int32) (a0_18 : Nat) (a0_19 : Nat) (a0_20 : Nat) (a0_21 : Nat) (a0_22 : Nat) (a0_23 : Nat) (a0_24 : Nat) (a0_25 : Nat) (a0_26 : Nat) (a0_27 : Nat) (a0_28 : Nat) (a0_29 : Nat) (a0_30 : Nat) (a0_31 : Nat) (a0_32 : Nat) (a0_33 : Nat) (a0_34 : Nat) (a0_35 : Nat) (a0_36 : Int64) (a0_37 : Int32) (a0_38 : Nat) (a0_39 : Nat) (a0_40 : Int32) (a0_41 : Nat) (a0_42 : Nat) (a0_43 : Nat) (a0_4_c : ClassId) (a0_4_f : Nat → Int32) (a0_18_c : ClassId) (a0_18_f : Nat → Int32) (a0_19_c : ClassId) (a0_19_f : Nat → Int32) (a0_20_c : ClassId) (a0_20_f : Nat → Int32) (a0_21_c : ClassId) (a0_21_f : Nat → Int32) (a0_22_c : ClassId) (a0_22_f : Nat → Int64) (a0_23_c : ClassId) (a0_23_f : Nat → Int32) (a0_24_c : ClassId) (a0_24_f : Nat → Int32) (a0_25_c : ClassId) (a0_25_f : Nat → Int64) (a0_26_c : ClassId) (a0_26_f : Nat → Int32) (a0_27_c : ClassId) (a0_27_f : Nat → Int64) (a0_28_c : ClassId) (a0_28_f : Nat → Int32) (a0_29_c : ClassId) (a0_29_f : Nat → Int32) (a0_30_c : ClassId) (a0_30_f : Nat → Int32) (a0_31_c : ClassId) (a0_31_f : Nat → Int32) (a0_32_c : ClassId) (a0_32_f : Nat → Int32) (a0_33_c : ClassId) (a0_33_f : Nat → Int32) (a0_34_c : ClassId) (a0_34_f : Nat → Int32) (a0_35_c : ClassId) (a0_35_f : Nat → Int32) (h_a0_5 : 0 ≤ a0_5.toInt ∧ a0_5.toInt ≤ 1000) (h_a0_6 : 0 ≤ a0_6.toInt ∧ a0_6.toInt ≤ 1000) (h_a0_7 : 0 ≤ a0_7.toInt ∧ a0_7.toInt ≤ 1000) (h_a0_8 : 0 ≤ a0_8.toInt ∧ a0_8.toInt ≤ 1000) (h_a0_17 : 0 ≤ a0_17.toInt ∧ a0_17.toInt ≤ 1) (h_a0_37 : (-1) ≤ a0_37.toInt ∧ a0_37.toInt ≤ 23) (h_a0_40 : 0 ≤ a0_40.toInt ∧ a0_40.toInt ≤ 12) (h_a0_18_f : vr 0 8 a0_18_f) (h_a0_19_f : vr 0 4 a0_19_f) (h_a0_20_f : vr 0 24 a0_20_f) (h_a0_21_f : vr 0 12 a0_21_f) (hbn : a0_17.toInt = 1) (hpt : PTOk a0_28_f (a0_20_f a0_17.toNatClampNeg).toInt) (hwo : WOk a0_32_f a0_33_f 12 (a0_21_f a0_17.toNatClampNeg).toInt) : Met l yX9_lineHere (.code yX9_lineHere cX9_lineHere 4 (some .boolean) :: TBL) ({ frames := 10, cells := 0, slots := 0, locals := 290 }) (va_Pc [.ref a0] (fun U => U.heap.size = sz ∧ va_P (dC, dI) vwCl [(a0, .inr (8, [.int a0_0, .int a0_1, .int a0_2, .int a0_3, .ref a0_4, .int a0_5, .int a0_6, .int a0_7, .int a0_8, .int a0_9, .int a0_10, .long a0_11, .int a0_12, .int a0_13, .int a0_14, .int a0_15, .int a0_16, .int a0_17, .ref a0_18, .ref a0_19, .ref a0_20, .ref a0_21, .ref a0_22, .ref a0_23, .ref a0_24, .ref a0_25, .ref a0_26, .ref a0_27, .ref a0_28, .ref a0_29, .ref a0_30, .ref a0_31, .ref a0_32, .ref a0_33, .ref a0_34, .ref a0_35, .long a0_36, .int a0_37, .ref a0_38, .ref a0_39, .int a0_40, .ref a0_41, .ref a0_42, .ref a0_43])), (a0_4, .inl (a0_4_c, 1000, .inl a0_4_f)), (a0_18, .inl (a0_18_c, 2, .inl a0_18_f)), (a0_19, .inl (a0_19_c, 2, .inl a0_19_f)), (a0_20, .inl (a0_20_c, 2, .inl a0_20_f)), (a0_21, .inl (a0_21_c, 2, .inl a0_21_f)), (a0_22, .inl (a0_22_c, 16, .inr (.inl a0_22_f))), (a0_23, .inl (a0_23_c, 16, .inl a0_23_f)), (a0_24, .inl (a0_24_c, 16, .inl a0_24_f)), (a0_25, .inl (a0_25_c, 8, .inr (.inl a0_25_f))), (a0_26, .inl (a0_26_c, 8, .inl a0_26_f)), (a0_27, .inl (a0_27_c, 48, .inr (.inl a0_27_f))), (a0_28, .inl (a0_28_c, 48, .inl a0_28_f)), (a0_29, .inl (a0_29_c, 48, .inl a0_29_f)), (a0_30, .inl (a0_30_c, 48, .inl a0_30_f)), (a0_31, .inl (a0_31_c, 48, .inl a0_31_f)), (a0_32, .inl (a0_32_c, 24, .inl a0_32_f)), (a0_33, .inl (a0_33_c, 24, .inl a0_33_f)), (a0_34, .inl (a0_34_c, 72, .inl a0_34_f)), (a0_35, .inl (a0_35_c, 24, .inl a0_35_f))] U.heap ∧ va_K (dC, dI) vwCl [(a0_4_c, .byte), (a0_18_c, .int), (a0_19_c, .int), (a0_20_c, .int), (a0_21_c, .int), (a0_22_c, .long), (a0_23_c, .int), (a0_24_c, .int), (a0_25_c, .long), (a0_26_c, .int), (a0_27_c, .long), (a0_28_c, .int), (a0_29_c, .int), (a0_30_c, .int), (a0_31_c, .int), (a0_32_c, .int), (a0_33_c, .int), (a0_34_c, .int), (a0_35_c, .boolean)] U ∧ va_D (fun _ => True) [(a0, .inr (8, [.int a0_0, .int a0_1, .int a0_2, .int a0_3, .ref a0_4, .int a0_5, .int a0_6, .int a0_7, .int a0_8, .int a0_9, .int a0_10, .long a0_11, .int a0_12, .int a0_13, .int a0_14, .int a0_15, .int a0_16, .int a0_17, .ref a0_18, .ref a0_19, .ref a0_20, .ref a0_21, .ref a0_22, .ref a0_23, .ref a0_24, .ref a0_25, .ref a0_26, .ref a0_27, .ref a0_28, .ref a0_29, .ref a0_30, .ref a0_31, .ref a0_32, .ref a0_33, .ref a0_34, .ref a0_35, .long a0_36, .int a0_37, .ref a0_38, .ref a0_39, .int a0_40, .ref a0_41, .ref a0_42, .ref a0_43])), (a0_4, .inl (a0_4_c, 1000, .inl a0_4_f)), (a0_18, .inl (a0_18_c, 2, .inl a0_18_f)), (a0_19, .inl (a0_19_c, 2, .inl a0_19_f)), (a0_20, .inl (a0_20_c, 2, .inl a0_20_f)), (a0_21, .inl (a0_21_c, 2, .inl a0_21_f)), (a0_22, .inl (a0_22_c, 16, .inr (.inl a0_22_f))), (a0_23, .inl (a0_23_c, 16, .inl a0_23_f)), (a0_24, .inl (a0_24_c, 16, .inl a0_24_f)), (a0_25, .inl (a0_25_c, 8, .inr (.inl a0_25_f))), (a0_26, .inl (a0_26_c, 8, .inl a0_26_f)), (a0_27, .inl (a0_27_c, 48, .inr (.inl a0_27_f))), (a0_28, .inl (a0_28_c, 48, .inl a0_28_f)), (a0_29, .inl (a0_29_c, 48, .inl a0_29_f)), (a0_30, .inl (a0_30_c, 48, .inl a0_30_f)), (a0_31, .inl (a0_31_c, 48, .inl a0_31_f)), (a0_32, .inl (a0_32_c, 24, .inl a0_32_f)), (a0_33, .inl (a0_33_c, 24, .inl a0_33_f)), (a0_34, .inl (a0_34_c, 72, .inl a0_34_f)), (a0_35, .inl (a0_35_c, 24, .inl a0_35_f))] ∧ Ev g (va_A [(a0, .inr (8, [.int a0_0, .int a0_1, .int a0_2, .int a0_3, .ref a0_4, .int a0_5, .int a0_6, .int a0_7, .int a0_8, .int a0_9, .int a0_10, .long a0_11, .int a0_12, .int a0_13, .int a0_14, .int a0_15, .int a0_16, .int a0_17, .ref a0_18, .ref a0_19, .ref a0_20, .ref a0_21, .ref a0_22, .ref a0_23, .ref a0_24, .ref a0_25, .ref a0_26, .ref a0_27, .ref a0_28, .ref a0_29, .ref a0_30, .ref a0_31, .ref a0_32, .ref a0_33, .ref a0_34, .ref a0_35, .long a0_36, .int a0_37, .ref a0_38, .ref a0_39, .int a0_40, .ref a0_41, .ref a0_42, .ref a0_43])), (a0_4, .inl (a0_4_c, 1000, .inl a0_4_f)), (a0_18, .inl (a0_18_c, 2, .inl a0_18_f)), (a0_19, .inl (a0_19_c, 2, .inl a0_19_f)), (a0_20, .inl (a0_20_c, 2, .inl a0_20_f)), (a0_21, .inl (a0_21_c, 2, .inl a0_21_f)), (a0_22, .inl (a0_22_c, 16, .inr (.inl a0_22_f))), (a0_23, .inl (a0_23_c, 16, .inl a0_23_f)), (a0_24, .inl (a0_24_c, 16, .inl a0_24_f)), (a0_25, .inl (a0_25_c, 8, .inr (.inl a0_25_f))), (a0_26, .inl (a0_26_c, 8, .inl a0_26_f)), (a0_27, .inl (a0_27_c, 48, .inr (.inl a0_27_f))), (a0_28, .inl (a0_28_c, 48, .inl a0_28_f)), (a0_29, .inl (a0_29_c, 48, .inl a0_29_f)), (a0_30, .inl (a0_30_c, 48, .inl a0_30_f)), (a0_31, .inl (a0_31_c, 48, .inl a0_31_f)), (a0_32, .inl (a0_32_c, 24, .inl a0_32_f)), (a0_33, .inl (a0_33_c, 24, .inl a0_33_f)), (a0_34, .inl (a0_34_c, 72, .inl a0_34_f)), (a0_35, .inl (a0_35_c, 24, .inl a0_35_f))] sz) U)) (va_Qi (fun (r : Int32) (u : Int32) => u = r) (fun (u : Int32) (t : State) => ∃ (za0_7 : Int32) (za0_8 : Int32) (za0_9 : Int32) (za0_10 : Int32) (za0_11 : Int64) (za0_12 : Int32) (za0_13 : Int32) (za0_14 : Int32) (za0_15 : Int32) (za0_16 : Int32) (za0_36 : Int64) (za0_37 : Int32) (za0_18_f : Nat → Int32) (za0_19_f : Nat → Int32) (za0_20_f : Nat → Int32) (za0_21_f : Nat → Int32) (za0_22_f : Nat → Int64) (za0_23_f : Nat → Int32) (za0_24_f : Nat → Int32) (za0_25_f : Nat → Int64) (za0_26_f : Nat → Int32) (za0_27_f : Nat → Int64) (za0_28_f : Nat → Int32) (za0_29_f : Nat → Int32) (za0_30_f : Nat → Int32) (za0_31_f : Nat → Int32) (za0_32_f : Nat → Int32) (za0_33_f : Nat → Int32) (za0_34_f : Nat → Int32) (za0_35_f : Nat → Int32), (0 ≤ za0_7.toInt ∧ za0_7.toInt ≤ 1000) ∧ (0 ≤ za0_8.toInt ∧ za0_8.toInt ≤ 1000) ∧ ((-1) ≤ za0_37.toInt ∧ za0_37.toInt ≤ 23) ∧ vr 0 8 za0_18_f ∧ vr 0 4 za0_19_f ∧ vr 0 24 za0_20_f ∧ vr 0 12 za0_21_f ∧ (u = 0 ∨ u = 1) ∧ (u.toInt = 1 → (za0_18_f a0_17.toNatClampNeg).toInt + (za0_19_f a0_17.toNatClampNeg).toInt + (za0_20_f a0_17.toNatClampNeg).toInt + (za0_21_f a0_17.toNatClampNeg).toInt = (a0_18_f a0_17.toNatClampNeg).toInt + (a0_19_f a0_17.toNatClampNeg).toInt + (a0_20_f a0_17.toNatClampNeg).toInt + (a0_21_f a0_17.toNatClampNeg).toInt + 1) ∧ (KP 1 a0_20_f za0_20_f) ∧ (KP 1 a0_21_f za0_21_f) ∧ (KP 12 a0_32_f za0_32_f) ∧ (KP 12 a0_33_f za0_33_f) ∧ (PTOk za0_28_f (za0_20_f a0_17.toNatClampNeg).toInt) ∧ (WOk za0_32_f za0_33_f 12 (za0_21_f a0_17.toNatClampNeg).toInt) ∧ va_P (dC, dI) vwCl [(a0, .inr (8, [.int a0_0, .int a0_1, .int a0_2, .int a0_3, .ref a0_4, .int a0_5, .int a0_6, .int za0_7, .int za0_8, .int za0_9, .int za0_10, .long za0_11, .int za0_12, .int za0_13, .int za0_14, .int za0_15, .int za0_16, .int a0_17, .ref a0_18, .ref a0_19, .ref a0_20, .ref a0_21, .ref a0_22, .ref a0_23, .ref a0_24, .ref a0_25, .ref a0_26, .ref a0_27, .ref a0_28, .ref a0_29, .ref a0_30, .ref a0_31, .ref a0_32, .ref a0_33, .ref a0_34, .ref a0_35, .long za0_36, .int za0_37, .ref a0_38, .ref a0_39, .int a0_40, .ref a0_41, .ref a0_42, .ref a0_43])), (a0_4, .inl (a0_4_c, 1000, .inl a0_4_f)), (a0_18, .inl (a0_18_c, 2, .inl za0_18_f)), (a0_19, .inl (a0_19_c, 2, .inl za0_19_f)), (a0_20, .inl (a0_20_c, 2, .inl za0_20_f)), (a0_21, .inl (a0_21_c, 2, .inl za0_21_f)), (a0_22, .inl (a0_22_c, 16, .inr (.inl za0_22_f))), (a0_23, .inl (a0_23_c, 16, .inl za0_23_f)), (a0_24, .inl (a0_24_c, 16, .inl za0_24_f)), (a0_25, .inl (a0_25_c, 8, .inr (.inl za0_25_f))), (a0_26, .inl (a0_26_c, 8, .inl za0_26_f)), (a0_27, .inl (a0_27_c, 48, .inr (.inl za0_27_f))), (a0_28, .inl (a0_28_c, 48, .inl za0_28_f)), (a0_29, .inl (a0_29_c, 48, .inl za0_29_f)), (a0_30, .inl (a0_30_c, 48, .inl za0_30_f)), (a0_31, .inl (a0_31_c, 48, .inl za0_31_f)), (a0_32, .inl (a0_32_c, 24, .inl za0_32_f)), (a0_33, .inl (a0_33_c, 24, .inl za0_33_f)), (a0_34, .inl (a0_34_c, 72, .inl za0_34_f)), (a0_35, .inl (a0_35_c, 24, .inl za0_35_f))] t.heap ∧ va_K (dC, dI) vwCl [] t ∧ va_D (va_A [(a0, .inr (8, [.int a0_0, .int a0_1, .int a0_2, .int a0_3, .ref a0_4, .int a0_5, .int a0_6, .int a0_7, .int a0_8, .int a0_9, .int a0_10, .long a0_11, .int a0_12, .int a0_13, .int a0_14, .int a0_15, .int a0_16, .int a0_17, .ref a0_18, .ref a0_19, .ref a0_20, .ref a0_21, .ref a0_22, .ref a0_23, .ref a0_24, .ref a0_25, .ref a0_26, .ref a0_27, .ref a0_28, .ref a0_29, .ref a0_30, .ref a0_31, .ref a0_32, .ref a0_33, .ref a0_34, .ref a0_35, .long a0_36, .int a0_37, .ref a0_38, .ref a0_39, .int a0_40, .ref a0_41, .ref a0_42, .ref a0_43])), (a0_4, .inl (a0_4_c, 1000, .inl a0_4_f)), (a0_18, .inl (a0_18_c, 2, .inl a0_18_f)), (a0_19, .inl (a0_19_c, 2, .inl a0_19_f)), (a0_20, .inl (a0_20_c, 2, .inl a0_20_f)), (a0_21, .inl (a0_21_c, 2, .inl a0_21_f)), (a0_22, .inl (a0_22_c, 16, .inr (.inl a0_22_f))), (a0_23, .inl (a0_23_c, 16, .inl a0_23_f)), (a0_24, .inl (a0_24_c, 16, .inl a0_24_f)), (a0_25, .inl (a0_25_c, 8, .inr (.inl a0_25_f))), (a0_26, .inl (a0_26_c, 8, .inl a0_26_f)), (a0_27, .inl (a0_27_c, 48, .inr (.inl a0_27_f))), (a0_28, .inl (a0_28_c, 48, .inl a0_28_f)), (a0_29, .inl (a0_29_c, 48, .inl a0_29_f)), (a0_30, .inl (a0_30_c, 48, .inl a0_30_f)), (a0_31, .inl (a0_31_c, 48, .inl a0_31_f)), (a0_32, .inl (a0_32_c, 24, .inl a0_32_f)), (a0_33, .inl (a0_33_c, 24, .inl a0_33_f)), (a0_34, .inl (a0_34_c, 72, .inl a0_34_f)), (a0_35, .inl (a0_35_c, 24, .inl a0_35_f))] sz) [(a0, .inr (8, [.int a0_0, .int a0_1, .int a0_2, .int a0_3, .ref a0_4, .int a0_5, .int a0_6, .int za0_7, .int za0_8, .int za0_9, .int za0_10, .long za0_11, .int za0_12, .int za0_13, .int za0_14, .int za0_15, .int za0_16, .int a0_17, .ref a0_18, .ref a0_19, .ref a0_20, .ref a0_21, .ref a0_22, .ref a0_23, .ref a0_24, .ref a0_25, .ref a0_26, .ref a0_27, .ref a0_28, .ref a0_29, .ref a0_30, .ref a0_31, .ref a0_32, .ref a0_33, .ref a0_34, .ref a0_35, .long za0_36, .int za0_37, .ref a0_38, .ref a0_39, .int a0_40, .ref a0_41, .ref a0_42, .ref a0_43])), (a0_4, .inl (a0_4_c, 1000, .inl a0_4_f)), (a0_18, .inl (a0_18_c, 2, .inl za0_18_f)), (a0_19, .inl (a0_19_c, 2, .inl za0_19_f)), (a0_20, .inl (a0_20_c, 2, .inl za0_20_f)), (a0_21, .inl (a0_21_c, 2, .inl za0_21_f)), (a0_22, .inl (a0_22_c, 16, .inr (.inl za0_22_f))), (a0_23, .inl (a0_23_c, 16, .inl za0_23_f)), (a0_24, .inl (a0_24_c, 16, .inl za0_24_f)), (a0_25, .inl (a0_25_c, 8, .inr (.inl za0_25_f))), (a0_26, .inl (a0_26_c, 8, .inl za0_26_f)), (a0_27, .inl (a0_27_c, 48, .inr (.inl za0_27_f))), (a0_28, .inl (a0_28_c, 48, .inl za0_28_f)), (a0_29, .inl (a0_29_c, 48, .inl za0_29_f)), (a0_30, .inl (a0_30_c, 48, .inl za0_30_f)), (a0_31, .inl (a0_31_c, 48, .inl za0_31_f)), (a0_32, .inl (a0_32_c, 24, .inl za0_32_f)), (a0_33, .inl (a0_33_c, 24, .inl za0_33_f)), (a0_34, .inl (a0_34_c, 72, .inl za0_34_f)), (a0_35, .inl (a0_35_c, 24, .inl za0_35_f))]) (va_A [(a0, .inr (8, [.int a0_0, .int a0_1, .int a0_2, .int a0_3, .ref a0_4, .int a0_5, .int a0_6, .int a0_7, .int a0_8, .int a0_9, .int a0_10, .long a0_11, .int a0_12, .int a0_13, .int a0_14, .int a0_15, .int a0_16, .int a0_17, .ref a0_18, .ref a0_19, .ref a0_20, .ref a0_21, .ref a0_22, .ref a0_23, .ref a0_24, .ref a0_25, .ref a0_26, .ref a0_27, .ref a0_28, .ref a0_29, .ref a0_30, .ref a0_31, .ref a0_32, .ref a0_33, .ref a0_34, .ref a0_35, .long a0_36, .int a0_37, .ref a0_38, .ref a0_39, .int a0_40, .ref a0_41, .ref a0_42, .ref a0_43])), (a0_4, .inl (a0_4_c, 1000, .inl a0_4_f)), (a0_18, .inl (a0_18_c, 2, .inl a0_18_f)), (a0_19, .inl (a0_19_c, 2, .inl a0_19_f)), (a0_20, .inl (a0_20_c, 2, .inl a0_20_f)), (a0_21, .inl (a0_21_c, 2, .inl a0_21_f)), (a0_22, .inl (a0_22_c, 16, .inr (.inl a0_22_f))), (a0_23, .inl (a0_23_c, 16, .inl a0_23_f)), (a0_24, .inl (a0_24_c, 16, .inl a0_24_f)), (a0_25, .inl (a0_25_c, 8, .inr (.inl a0_25_f))), (a0_26, .inl (a0_26_c, 8, .inl a0_26_f)), (a0_27, .inl (a0_27_c, 48, .inr (.inl a0_27_f))), (a0_28, .inl (a0_28_c, 48, .inl a0_28_f)), (a0_29, .inl (a0_29_c, 48, .inl a0_29_f)), (a0_30, .inl (a0_30_c, 48, .inl a0_30_f)), (a0_31, .inl (a0_31_c, 48, .inl a0_31_f)), (a0_32, .inl (a0_32_c, 24, .inl a0_32_f)), (a0_33, .inl (a0_33_c, 24, .inl a0_33_f)), (a0_34, .inl (a0_34_c, 72, .inl a0_34_f)), (a0_35, .inl (a0_35_c, 24, .inl a0_35_f))] sz)) 0 0 (va_A [(a0, .inr (8, [.int a0_0, .int a0_1, .int a0_2, .int a0_3, .ref a0_4, .int a0_5, .int a0_6, .int a0_7, .int a0_8, .int a0_9, .int a0_10, .long a0_11, .int a0_12, .int a0_13, .int a0_14, .int a0_15, .int a0_16, .int a0_17, .ref a0_18, .ref a0_19, .ref a0_20, .ref a0_21, .ref a0_22, .ref a0_23, .ref a0_24, .ref a0_25, .ref a0_26, .ref a0_27, .ref a0_28, .ref a0_29, .ref a0_30, .ref a0_31, .ref a0_32, .ref a0_33, .ref a0_34, .ref a0_35, .long a0_36, .int a0_37, .ref a0_38, .ref a0_39, .int a0_40, .ref a0_41, .ref a0_42, .ref a0_43])), (a0_4, .inl (a0_4_c, 1000, .inl a0_4_f)), (a0_18, .inl (a0_18_c, 2, .inl a0_18_f)), (a0_19, .inl (a0_19_c, 2, .inl a0_19_f)), (a0_20, .inl (a0_20_c, 2, .inl a0_20_f)), (a0_21, .inl (a0_21_c, 2, .inl a0_21_f)), (a0_22, .inl (a0_22_c, 16, .inr (.inl a0_22_f))), (a0_23, .inl (a0_23_c, 16, .inl a0_23_f)), (a0_24, .inl (a0_24_c, 16, .inl a0_24_f)), (a0_25, .inl (a0_25_c, 8, .inr (.inl a0_25_f))), (a0_26, .inl (a0_26_c, 8, .inl a0_26_f)), (a0_27, .inl (a0_27_c, 48, .inr (.inl a0_27_f))), (a0_28, .inl (a0_28_c, 48, .inl a0_28_f)), (a0_29, .inl (a0_29_c, 48, .inl a0_29_f)), (a0_30, .inl (a0_30_c, 48, .inl a0_30_f)), (a0_31, .inl (a0_31_c, 48, .inl a0_31_f)), (a0_32, .inl (a0_32_c, 24, .inl a0_32_f)), (a0_33, .inl (a0_33_c, 24, .inl a0_33_f)), (a0_34, .inl (a0_34_c, 72, .inl a0_34_f)), (a0_35, .inl (a0_35_c, 24, .inl a0_35_f))] sz) := by
  refine Met.ofW (cc := cX9_lineHere) (maxL := 4) (ret := (some .boolean)) (by decide) rfl ?_
  intro p e s m args below meth c s₁ B hml hv
  obtain ⟨rfl, hsz, hP, hK, hD0, hE⟩ := hv
  have hx := B.exec
  have hb := B.bytes
  have hr := B.returns
  have hts0 := atoms_spec (ws := (.code yX9_lineHere cX9_lineHere 4 (some .boolean) :: TBL)) B.pre
  have hts := fun (w : Cond) (h : w ∈ TBL) => hts0 w (List.mem_cons_of_mem _ h)
  have hown : s.vm.findClass RX9 = some m.cls := findClass_of_methodNamed B.named
  have hlocks := B.notSynchronized
  have hN := hE.1
  subst hsz
  have hD := hD0.self (sz := s.heap.size)
  generalize hAe : va_A [(a0, .inr (8, [.int a0_0, .int a0_1, .int a0_2, .int a0_3, .ref a0_4, .int a0_5, .int a0_6, .int a0_7, .int a0_8, .int a0_9, .int a0_10, .long a0_11, .int a0_12, .int a0_13, .int a0_14, .int a0_15, .int a0_16, .int a0_17, .ref a0_18, .ref a0_19, .ref a0_20, .ref a0_21, .ref a0_22, .ref a0_23, .ref a0_24, .ref a0_25, .ref a0_26, .ref a0_27, .ref a0_28, .ref a0_29, .ref a0_30, .ref a0_31, .ref a0_32, .ref a0_33, .ref a0_34, .ref a0_35, .long a0_36, .int a0_37, .ref a0_38, .ref a0_39, .int a0_40, .ref a0_41, .ref a0_42, .ref a0_43])), (a0_4, .inl (a0_4_c, 1000, .inl a0_4_f)), (a0_18, .inl (a0_18_c, 2, .inl a0_18_f)), (a0_19, .inl (a0_19_c, 2, .inl a0_19_f)), (a0_20, .inl (a0_20_c, 2, .inl a0_20_f)), (a0_21, .inl (a0_21_c, 2, .inl a0_21_f)), (a0_22, .inl (a0_22_c, 16, .inr (.inl a0_22_f))), (a0_23, .inl (a0_23_c, 16, .inl a0_23_f)), (a0_24, .inl (a0_24_c, 16, .inl a0_24_f)), (a0_25, .inl (a0_25_c, 8, .inr (.inl a0_25_f))), (a0_26, .inl (a0_26_c, 8, .inl a0_26_f)), (a0_27, .inl (a0_27_c, 48, .inr (.inl a0_27_f))), (a0_28, .inl (a0_28_c, 48, .inl a0_28_f)), (a0_29, .inl (a0_29_c, 48, .inl a0_29_f)), (a0_30, .inl (a0_30_c, 48, .inl a0_30_f)), (a0_31, .inl (a0_31_c, 48, .inl a0_31_f)), (a0_32, .inl (a0_32_c, 24, .inl a0_32_f)), (a0_33, .inl (a0_33_c, 24, .inl a0_33_f)), (a0_34, .inl (a0_34_c, 72, .inl a0_34_f)), (a0_35, .inl (a0_35_c, 24, .inl a0_35_f))] s.heap.size = A at hD hE ⊢
  have hA : ∀ q : Nat, s.heap.size ≤ q → A q := fun q h => by rw [← hAe]; exact Or.inr h
  have hS : va_S A s.heap s.heap [] := va_S.rf
  replace hP : va_P (dC, dI) vwCl [(a0, .inr (8, [.int a0_0, .int a0_1, .int a0_2, .int a0_3, .ref a0_4, .int a0_5, .int a0_6, .int a0_7, .int a0_8, .int a0_9, .int a0_10, .long a0_11, .int a0_12, .int a0_13, .int a0_14, .int a0_15, .int a0_16, .int a0_17, .ref a0_18, .ref a0_19, .ref a0_20, .ref a0_21, .ref a0_22, .ref a0_23, .ref a0_24, .ref a0_25, .ref a0_26, .ref a0_27, .ref a0_28, .ref a0_29, .ref a0_30, .ref a0_31, .ref a0_32, .ref a0_33, .ref a0_34, .ref a0_35, .long a0_36, .int a0_37, .ref a0_38, .ref a0_39, .int a0_40, .ref a0_41, .ref a0_42, .ref a0_43])), (a0_4, .inl (a0_4_c, 1000, .inl a0_4_f)), (a0_18, .inl (a0_18_c, 2, .inl a0_18_f)), (a0_19, .inl (a0_19_c, 2, .inl a0_19_f)), (a0_20, .inl (a0_20_c, 2, .inl a0_20_f)), (a0_21, .inl (a0_21_c, 2, .inl a0_21_f)), (a0_22, .inl (a0_22_c, 16, .inr (.inl a0_22_f))), (a0_23, .inl (a0_23_c, 16, .inl a0_23_f)), (a0_24, .inl (a0_24_c, 16, .inl a0_24_f)), (a0_25, .inl (a0_25_c, 8, .inr (.inl a0_25_f))), (a0_26, .inl (a0_26_c, 8, .inl a0_26_f)), (a0_27, .inl (a0_27_c, 48, .inr (.inl a0_27_f))), (a0_28, .inl (a0_28_c, 48, .inl a0_28_f)), (a0_29, .inl (a0_29_c, 48, .inl a0_29_f)), (a0_30, .inl (a0_30_c, 48, .inl a0_30_f)), (a0_31, .inl (a0_31_c, 48, .inl a0_31_f)), (a0_32, .inl (a0_32_c, 24, .inl a0_32_f)), (a0_33, .inl (a0_33_c, 24, .inl a0_33_f)), (a0_34, .inl (a0_34_c, 72, .inl a0_34_f)), (a0_35, .inl (a0_35_c, 24, .inl a0_35_f))] s.heap := hP
  have hl := lv_entry ([.ref a0]) (n := 4) (Nat.le_of_ble_eq_true rfl)
  rw [lg_entry_eq]
  generalize (lg_sl ([.ref a0]) ++ List.replicate (4 - (lg_sl ([.ref a0])).length) Slot.unset).toArray = ls at hl ⊢
  have hl : lv_has ls 4 [(0, .ref a0)] := hl
  have b_a0_0 := i32b a0_0
  have b_a0_1 := i32b a0_1
  have b_a0_2 := i32b a0_2
  have b_a0_3 := i32b a0_3
  have b_a0_9 := i32b a0_9
  have b_a0_10 := i32b a0_10
  have b_a0_12 := i32b a0_12
  have b_a0_13 := i32b a0_13
  have b_a0_14 := i32b a0_14
  have b_a0_15 := i32b a0_15
  have b_a0_16 := i32b a0_16
  refine lv_aload_n hx hb dX9_lineHere_0 rfl (lv_at hl 0 rfl) ?_
  refine va_ldcS hx hb hown (show vk_R RX9 205 "person" (g.2.2.2.2.2.1 0) s from hE.2.2.2.2.2.2.2.2.2.2.2.2.2.2.2.2 0 (by decide)) dX9_lineHere_1 ?_
  have hPc := (rgP20_580fa52 hP)
  have hKc := (rgK19_5d0c76c hK)
  refine vp_callSi ((va_runV (As := [.ref (g.2.2.2.2.2.1 0)]) (rest := []) ⟨hx, hb, hml, hown, hts⟩ (k_X9_is l dC dI g (a0) (0) (a0_0) (a0_1) (a0_2) (a0_3) (a0_4) (a0_5) (a0_6) (a0_7) (a0_8) (a0_9) (a0_10) (a0_11) (a0_12) (a0_13) (a0_14) (a0_15) (a0_16) (a0_17) (a0_18) (a0_19) (a0_20) (a0_21) (a0_22) (a0_23) (a0_24) (a0_25) (a0_26) (a0_27) (a0_28) (a0_29) (a0_30) (a0_31) (a0_32) (a0_33) (a0_34) (a0_35) (a0_36) (a0_37) (a0_38) (a0_39) (a0_40) (a0_41) (a0_42) (a0_43) (by omega) (by omega) (by omega) (by omega) (by omega) (by omega) (by omega) (by first | assumption | decide)) (cwV 1 hts (gwV qw_427 qw_428 qw_429 qw_386 qw_426) rfl rfl rfl (by decide +kernel) ⟨Nat.le_of_ble_eq_true rfl, Nat.le_of_ble_eq_true rfl⟩) ⟨fun a U g9 mk q => ⟨q.1, q.2.1, va_K.moved (u := U) (U := U.calling g9 mk a) (Vm.Alike.refl U.vm) q.2.2.1, Ev.bl q.2.2.2⟩, va_recv hK hP (ci := 8) (q0 := 0) rfl rgL20_92b1330, fun U hU hW => ⟨rfl, atB hU hPc, va_K.moved hW.alike hKc, hE.go hS (fun _ h => h.elim) hU hW⟩⟩ rfl rfl hl.1 rfl (lv_room (Nat.le_of_ble_eq_true rfl)) dX9_lineHere_3 ⟨Nat.le_of_ble_eq_true rfl, Nat.le_of_ble_eq_true rfl⟩)).run (fun r1 h_r1 => ?_)
  have h_r1 : (r1 = 0 ∨ r1 = 1) := h_r1
  have b_r1 := z01 (show r1 = 0 ∨ r1 = 1 from h_r1)
  refine lv_if_eq (tgt := 13) hx hb dX9_lineHere_6 (by decide) (fun c6_2 => ?_) (fun c6_2 => ?_)
  · have c6_2 : r1.toInt = 0 := (cv_eq rfl (by decide)).mp c6_2
    refine lv_aload_n hx hb dX9_lineHere_13 rfl (lv_at hl 0 rfl) ?_
    refine va_ldcS hx hb hown (show vk_R RX9 215 "deposit" (g.2.2.2.2.2.1 3) s from hE.2.2.2.2.2.2.2.2.2.2.2.2.2.2.2.2 3 (by decide)) dX9_lineHere_14 ?_
    have hPc := (rgP20_580fa52 hP)
    have hKc := (rgK19_5d0c76c hK)
    refine vp_callSi ((va_runV (As := [.ref (g.2.2.2.2.2.1 3)]) (rest := []) ⟨hx, hb, hml, hown, hts⟩ (k_X9_is l dC dI g (a0) (3) (a0_0) (a0_1) (a0_2) (a0_3) (a0_4) (a0_5) (a0_6) (a0_7) (a0_8) (a0_9) (a0_10) (a0_11) (a0_12) (a0_13) (a0_14) (a0_15) (a0_16) (a0_17) (a0_18) (a0_19) (a0_20) (a0_21) (a0_22) (a0_23) (a0_24) (a0_25) (a0_26) (a0_27) (a0_28) (a0_29) (a0_30) (a0_31) (a0_32) (a0_33) (a0_34) (a0_35) (a0_36) (a0_37) (a0_38) (a0_39) (a0_40) (a0_41) (a0_42) (a0_43) (by omega) (by omega) (by omega) (by omega) (by omega) (by omega) (by omega) (by first | assumption | decide)) (cwV 1 hts (gwV qw_427 qw_428 qw_429 qw_386 qw_426) rfl rfl rfl (by decide +kernel) ⟨Nat.le_of_ble_eq_true rfl, Nat.le_of_ble_eq_true rfl⟩) ⟨fun a U g9 mk q => ⟨q.1, q.2.1, va_K.moved (u := U) (U := U.calling g9 mk a) (Vm.Alike.refl U.vm) q.2.2.1, Ev.bl q.2.2.2⟩, va_recv hK hP (ci := 8) (q0 := 0) rfl rgL20_92b1330, fun U hU hW => ⟨rfl, atB hU hPc, va_K.moved hW.alike hKc, hE.go hS (fun _ h => h.elim) hU hW⟩⟩ rfl rfl hl.1 rfl (lv_room (Nat.le_of_ble_eq_true rfl)) dX9_lineHere_16 ⟨Nat.le_of_ble_eq_true rfl, Nat.le_of_ble_eq_true rfl⟩)).run (fun r3 h_r3 => ?_)
    have h_r3 : (r3 = 0 ∨ r3 = 1) := h_r3
    have b_r3 := z01 (show r3 = 0 ∨ r3 = 1 from h_r3)
    refine lv_if_eq (tgt := 26) hx hb dX9_lineHere_19 (by decide) (fun c19_4 => ?_) (fun c19_4 => ?_)
    · have c19_4 : r3.toInt = 0 := (cv_eq rfl (by decide)).mp c19_4
      refine lv_aload_n hx hb dX9_lineHere_26 rfl (lv_at hl 0 rfl) ?_
      refine va_ldcS hx hb hown (show vk_R RX9 217 "piece" (g.2.2.2.2.2.1 4) s from hE.2.2.2.2.2.2.2.2.2.2.2.2.2.2.2.2 4 (by decide)) dX9_lineHere_27 ?_
      have hPc := (rgP20_580fa52 hP)
      have hKc := (rgK19_5d0c76c hK)
      refine vp_callSi ((va_runV (As := [.ref (g.2.2.2.2.2.1 4)]) (rest := []) ⟨hx, hb, hml, hown, hts⟩ (k_X9_is l dC dI g (a0) (4) (a0_0) (a0_1) (a0_2) (a0_3) (a0_4) (a0_5) (a0_6) (a0_7) (a0_8) (a0_9) (a0_10) (a0_11) (a0_12) (a0_13) (a0_14) (a0_15) (a0_16) (a0_17) (a0_18) (a0_19) (a0_20) (a0_21) (a0_22) (a0_23) (a0_24) (a0_25) (a0_26) (a0_27) (a0_28) (a0_29) (a0_30) (a0_31) (a0_32) (a0_33) (a0_34) (a0_35) (a0_36) (a0_37) (a0_38) (a0_39) (a0_40) (a0_41) (a0_42) (a0_43) (by omega) (by omega) (by omega) (by omega) (by omega) (by omega) (by omega) (by first | assumption | decide)) (cwV 1 hts (gwV qw_427 qw_428 qw_429 qw_386 qw_426) rfl rfl rfl (by decide +kernel) ⟨Nat.le_of_ble_eq_true rfl, Nat.le_of_ble_eq_true rfl⟩) ⟨fun a U g9 mk q => ⟨q.1, q.2.1, va_K.moved (u := U) (U := U.calling g9 mk a) (Vm.Alike.refl U.vm) q.2.2.1, Ev.bl q.2.2.2⟩, va_recv hK hP (ci := 8) (q0 := 0) rfl rgL20_92b1330, fun U hU hW => ⟨rfl, atB hU hPc, va_K.moved hW.alike hKc, hE.go hS (fun _ h => h.elim) hU hW⟩⟩ rfl rfl hl.1 rfl (lv_room (Nat.le_of_ble_eq_true rfl)) dX9_lineHere_29 ⟨Nat.le_of_ble_eq_true rfl, Nat.le_of_ble_eq_true rfl⟩)).run (fun r5 h_r5 => ?_)
      have h_r5 : (r5 = 0 ∨ r5 = 1) := h_r5
      have b_r5 := z01 (show r5 = 0 ∨ r5 = 1 from h_r5)
      refine lv_if_eq (tgt := 39) hx hb dX9_lineHere_32 (by decide) (fun c32_6 => ?_) (fun c32_6 => ?_)
      · have c32_6 : r5.toInt = 0 := (cv_eq rfl (by decide)).mp c32_6
        refine lv_aload_n hx hb dX9_lineHere_39 rfl (lv_at hl 0 rfl) ?_
        refine va_ldcS hx hb hown (show vk_R RX9 224 "close" (g.2.2.2.2.2.1 8) s from hE.2.2.2.2.2.2.2.2.2.2.2.2.2.2.2.2 8 (by decide)) dX9_lineHere_40 ?_
        have hPc := (rgP20_580fa52 hP)
        have hKc := (rgK19_5d0c76c hK)
        refine vp_callSi ((va_runV (As := [.ref (g.2.2.2.2.2.1 8)]) (rest := []) ⟨hx, hb, hml, hown, hts⟩ (k_X9_is l dC dI g (a0) (8) (a0_0) (a0_1) (a0_2) (a0_3) (a0_4) (a0_5) (a0_6) (a0_7) (a0_8) (a0_9) (a0_10) (a0_11) (a0_12) (a0_13) (a0_14) (a0_15) (a0_16) (a0_17) (a0_18) (a0_19) (a0_20) (a0_21) (a0_22) (a0_23) (a0_24) (a0_25) (a0_26) (a0_27) (a0_28) (a0_29) (a0_30) (a0_31) (a0_32) (a0_33) (a0_34) (a0_35) (a0_36) (a0_37) (a0_38) (a0_39) (a0_40) (a0_41) (a0_42) (a0_43) (by omega) (by omega) (by omega) (by omega) (by omega) (by omega) (by omega) (by first | assumption | decide)) (cwV 1 hts (gwV qw_427 qw_428 qw_429 qw_386 qw_426) rfl rfl rfl (by decide +kernel) ⟨Nat.le_of_ble_eq_true rfl, Nat.le_of_ble_eq_true rfl⟩) ⟨fun a U g9 mk q => ⟨q.1, q.2.1, va_K.moved (u := U) (U := U.calling g9 mk a) (Vm.Alike.refl U.vm) q.2.2.1, Ev.bl q.2.2.2⟩, va_recv hK hP (ci := 8) (q0 := 0) rfl rgL20_92b1330, fun U hU hW => ⟨rfl, atB hU hPc, va_K.moved hW.alike hKc, hE.go hS (fun _ h => h.elim) hU hW⟩⟩ rfl rfl hl.1 rfl (lv_room (Nat.le_of_ble_eq_true rfl)) dX9_lineHere_42 ⟨Nat.le_of_ble_eq_true rfl, Nat.le_of_ble_eq_true rfl⟩)).run (fun r7 h_r7 => ?_)
        have h_r7 : (r7 = 0 ∨ r7 = 1) := h_r7
        have b_r7 := z01 (show r7 = 0 ∨ r7 = 1 from h_r7)
        refine lv_if_eq (tgt := 52) hx hb dX9_lineHere_45 (by decide) (fun c45_8 => ?_) (fun c45_8 => ?_)
        · have c45_8 : r7.toInt = 0 := (cv_eq rfl (by decide)).mp c45_8
          refine lv_iconst (v := (-1)) hx hb dX9_lineHere_52 (by decide) ?_
          refine lv_istore_n (lv' := [(1, .int (-1)), (0, .ref a0)]) hx hb dX9_lineHere_53 rfl hl (by decide) rfl (fun ls hl => ?_)
          refine lv_aload_n hx hb dX9_lineHere_54 rfl (lv_at hl 1 rfl) ?_
          refine lv_iload_n hx hb dX9_lineHere_55 rfl (lv_at hl 0 rfl) ?_
          refine lv_if_lt (tgt := 63) hx hb dX9_lineHere_56 (by decide) (fun c56_9 => ?_) (fun c56_9 => by exfalso; exact absurd c56_9 (by decide))
          refine lv_iconst (v := 0) hx hb dX9_lineHere_63 (by decide) ?_
          refine lv_iconst (v := 1) hx hb dX9_lineHere_64 (by decide) ?_
          have qc0 : (0 : Int32).toInt = 0 := by decide
          have qc1 : (1 : Int32).toInt = 1 := by decide
          have hPc := (rgP20_580fa52 hP)
          have hKc := (rgK19_5d0c76c hK)
          have hDc := (rgD20_ec33658 hD)
          have hFc := freeW hDc hS hA
          refine va_calli (va_runV (As := [.int 0, .int 1]) (rest := []) ⟨hx, hb, hml, hown, hts⟩ (k_X9_must l dC dI g s.heap.size (a0) (0) (1) (a0_0) (a0_1) (a0_2) (a0_3) (a0_4) (a0_5) (a0_6) (a0_7) (a0_8) (a0_9) (a0_10) (a0_11) (a0_12) (a0_13) (a0_14) (a0_15) (a0_16) (a0_17) (a0_18) (a0_19) (a0_20) (a0_21) (a0_22) (a0_23) (a0_24) (a0_25) (a0_26) (a0_27) (a0_28) (a0_29) (a0_30) (a0_31) (a0_32) (a0_33) (a0_34) (a0_35) (a0_36) (a0_37) (a0_38) (a0_39) (a0_40) (a0_41) (a0_42) (a0_43) (by omega) (by omega) (by omega) (by omega) (by omega) (by omega) (by omega) (by omega)) (cwV 2 hts (gwV qw_472 qw_473 qw_474 qw_386 qw_471) rfl rfl rfl (by decide +kernel) ⟨Nat.le_of_ble_eq_true rfl, Nat.le_of_ble_eq_true rfl⟩) ⟨fun a U g9 mk q => ⟨q.1, q.2.1, q.2.2.1, va_K.moved (u := U) (U := U.calling g9 mk a) (Vm.Alike.refl U.vm) q.2.2.2.1, q.2.2.2.2.1, Ev.bl q.2.2.2.2.2⟩, va_recv hK hP (ci := 8) (q0 := 0) rfl rgL20_92b1330, fun U hU hW => ⟨rfl, by rw [hU], atB hU hPc, va_K.moved hW.alike hKc, hDc.weaken (fun _ _ _ _ => trivial), hE.go hS hFc hU hW⟩⟩ rfl rfl hl.1 rfl (lv_room (Nat.le_of_ble_eq_true rfl)) dX9_lineHere_65 ⟨Nat.le_of_ble_eq_true rfl, Nat.le_of_ble_eq_true rfl⟩) hS (fun q _ h => hFc q h) hFc (fun r11 u10 t H1 locs ht hvm h_u10 hB hz1 hk1 hS => ?_)
          obtain ⟨za0_12_12, za0_13_13, hF14, hF15, hP1, hK1, hD1⟩ := hB
          have hK1 := va_K.moved hvm.symm hK1
          have hJ9 := rgJ20_b6a011a hP hD hk1 hFc (atH ht hP1) hD1
          clear hP hD hPc hKc hDc hFc hP1 hD1 hk1 hz1
          obtain ⟨hP, hD⟩ := hJ9
          clear hK1
          generalize H1 = H at hP hS ⊢
          refine W.widen (k := 0) (n := 0) (Nat.le_of_ble_eq_true rfl) (Nat.le_of_ble_eq_true rfl) ?_
          have h_r11 := congrArg Int32.toInt h_u10
          have hz_r11 : r11 = 0 ∨ r11 = 1 := h_u10 ▸ hF14
          have b_r11 := z01 hz_r11
          refine cst (v := 0) (Int32.toInt_inj.mp (by rw [show (0 : Int32).toInt = 0 by decide]; omega)) ?_
          refine lv_if_ne (tgt := 73) hx hb dX9_lineHere_68 (by decide) (fun c68_16 => by exfalso; exact absurd c68_16 (by decide)) (fun c68_16 => ?_)
          refine lv_iconst (v := 0) hx hb dX9_lineHere_71 (by decide) ?_
          have qc0 : (0 : Int32).toInt = 0 := by decide
          refine W.widen (k := 0) (n := 0) (Nat.le_of_ble_eq_true rfl) (Nat.le_of_ble_eq_true rfl) ?_
          have hP9 := hP
          have hD9 := hD
          have hK9 := (rgK19_5d0c76c hK)
          have hf9_0 : (0 ≤ a0_7.toInt ∧ a0_7.toInt ≤ 1000) := by omega
          have hf9_1 : (0 ≤ a0_8.toInt ∧ a0_8.toInt ≤ 1000) := by omega
          have hf9_2 : ((-1) ≤ a0_37.toInt ∧ a0_37.toInt ≤ 23) := by omega
          have hf9_3 : vr 0 8 a0_18_f := h_a0_18_f
          have hf9_4 : vr 0 4 a0_19_f := h_a0_19_f
          have hf9_5 : vr 0 24 a0_20_f := h_a0_20_f
          have hf9_6 : vr 0 12 a0_21_f := h_a0_21_f
          have hf9_7 : ((0 : Int32) = 0 ∨ (0 : Int32) = 1) := (by decide)
          have hf9_8 : ((0 : Int32).toInt = 1 → (a0_18_f a0_17.toNatClampNeg).toInt + (a0_19_f a0_17.toNatClampNeg).toInt + (a0_20_f a0_17.toNatClampNeg).toInt + (a0_21_f a0_17.toNatClampNeg).toInt = (a0_18_f a0_17.toNatClampNeg).toInt + (a0_19_f a0_17.toNatClampNeg).toInt + (a0_20_f a0_17.toNatClampNeg).toInt + (a0_21_f a0_17.toNatClampNeg).toInt + 1) := by omega
          have hf9_9 : (KP 1 a0_20_f a0_20_f) := by first | exact KP.rf | assumption
          have hf9_10 : (KP 1 a0_21_f a0_21_f) := by first | exact KP.rf | assumption
          have hf9_11 : (KP 12 a0_32_f a0_32_f) := by first | exact KP.rf | assumption
          have hf9_12 : (KP 12 a0_33_f a0_33_f) := by first | exact KP.rf | assumption
          have hf9_13 : (PTOk a0_28_f (a0_20_f a0_17.toNatClampNeg).toInt) := by assumption
          have hf9_14 : (WOk a0_32_f a0_33_f 12 (a0_21_f a0_17.toNatClampNeg).toInt) := by assumption
          exact W.zret (v := 0) hx hb hr rfl (fun t ht hW => ⟨⟨0, 0, rfl, rfl, a0_7, a0_8, a0_9, a0_10, a0_11, za0_12_12, za0_13_13, a0_14, a0_15, a0_16, a0_36, a0_37, a0_18_f, a0_19_f, a0_20_f, a0_21_f, a0_22_f, a0_23_f, a0_24_f, a0_25_f, a0_26_f, a0_27_f, a0_28_f, a0_29_f, a0_30_f, a0_31_f, a0_32_f, a0_33_f, a0_34_f, a0_35_f, hf9_0, hf9_1, hf9_2, hf9_3, hf9_4, hf9_5, hf9_6, hf9_7, hf9_8, hf9_9, hf9_10, hf9_11, hf9_12, hf9_13, hf9_14, atB ht hP9, va_K.moved hW.alike hK9, hD9⟩, hS.F ht⟩) hS.2.2 dX9_lineHere_72
        · have c45_8 : ¬ (r7.toInt = 0) := mt (cv_eq rfl (by decide)).mpr c45_8
          refine lv_iconst (v := 3) hx hb dX9_lineHere_48 (by decide) ?_
          refine lv_goto (tgt := 53) hx hb dX9_lineHere_49 (by decide) ?_
          refine lv_istore_n (lv' := [(1, .int 3), (0, .ref a0)]) hx hb dX9_lineHere_53 rfl hl (by decide) rfl (fun ls hl => ?_)
          refine lv_aload_n hx hb dX9_lineHere_54 rfl (lv_at hl 1 rfl) ?_
          refine lv_iload_n hx hb dX9_lineHere_55 rfl (lv_at hl 0 rfl) ?_
          refine lv_if_lt (tgt := 63) hx hb dX9_lineHere_56 (by decide) (fun c56_17 => by exfalso; exact absurd c56_17 (by decide)) (fun c56_17 => ?_)
          refine lv_iconst (v := 1) hx hb dX9_lineHere_59 (by decide) ?_
          refine lv_goto (tgt := 64) hx hb dX9_lineHere_60 (by decide) ?_
          refine lv_iconst (v := 1) hx hb dX9_lineHere_64 (by decide) ?_
          have qc1 : (1 : Int32).toInt = 1 := by decide
          have hPc := (rgP20_580fa52 hP)
          have hKc := (rgK19_5d0c76c hK)
          have hDc := (rgD20_ec33658 hD)
          have hFc := freeW hDc hS hA
          refine va_calli (va_runV (As := [.int 1, .int 1]) (rest := []) ⟨hx, hb, hml, hown, hts⟩ (k_X9_must l dC dI g s.heap.size (a0) (1) (1) (a0_0) (a0_1) (a0_2) (a0_3) (a0_4) (a0_5) (a0_6) (a0_7) (a0_8) (a0_9) (a0_10) (a0_11) (a0_12) (a0_13) (a0_14) (a0_15) (a0_16) (a0_17) (a0_18) (a0_19) (a0_20) (a0_21) (a0_22) (a0_23) (a0_24) (a0_25) (a0_26) (a0_27) (a0_28) (a0_29) (a0_30) (a0_31) (a0_32) (a0_33) (a0_34) (a0_35) (a0_36) (a0_37) (a0_38) (a0_39) (a0_40) (a0_41) (a0_42) (a0_43) (by omega) (by omega) (by omega) (by omega) (by omega) (by omega) (by omega) (by omega)) (cwV 2 hts (gwV qw_472 qw_473 qw_474 qw_386 qw_471) rfl rfl rfl (by decide +kernel) ⟨Nat.le_of_ble_eq_true rfl, Nat.le_of_ble_eq_true rfl⟩) ⟨fun a U g9 mk q => ⟨q.1, q.2.1, q.2.2.1, va_K.moved (u := U) (U := U.calling g9 mk a) (Vm.Alike.refl U.vm) q.2.2.2.1, q.2.2.2.2.1, Ev.bl q.2.2.2.2.2⟩, va_recv hK hP (ci := 8) (q0 := 0) rfl rgL20_92b1330, fun U hU hW => ⟨rfl, by rw [hU], atB hU hPc, va_K.moved hW.alike hKc, hDc.weaken (fun _ _ _ _ => trivial), hE.go hS hFc hU hW⟩⟩ rfl rfl hl.1 rfl (lv_room (Nat.le_of_ble_eq_true rfl)) dX9_lineHere_65 ⟨Nat.le_of_ble_eq_true rfl, Nat.le_of_ble_eq_true rfl⟩) hS (fun q _ h => hFc q h) hFc (fun r19 u18 t H1 locs ht hvm h_u18 hB hz1 hk1 hS => ?_)
          obtain ⟨za0_12_20, za0_13_21, hF22, hF23, hP1, hK1, hD1⟩ := hB
          have hK1 := va_K.moved hvm.symm hK1
          have hJ9 := rgJ20_b6a011a hP hD hk1 hFc (atH ht hP1) hD1
          clear hP hD hPc hKc hDc hFc hP1 hD1 hk1 hz1
          obtain ⟨hP, hD⟩ := hJ9
          clear hK1
          generalize H1 = H at hP hS ⊢
          refine W.widen (k := 0) (n := 0) (Nat.le_of_ble_eq_true rfl) (Nat.le_of_ble_eq_true rfl) ?_
          have h_r19 := congrArg Int32.toInt h_u18
          have hz_r19 : r19 = 0 ∨ r19 = 1 := h_u18 ▸ hF22
          have b_r19 := z01 hz_r19
          refine lv_if_ne (tgt := 73) hx hb dX9_lineHere_68 (by decide) (fun c68_24 => ?_) (fun c68_24 => ?_)
          · have c68_24 : ¬ (r19.toInt = 0) := mt (cv_eq rfl (by decide)).mpr c68_24
            refine lv_iload_n hx hb dX9_lineHere_73 rfl (lv_at hl 0 rfl) ?_
            refine lv_if_ne (tgt := 99) hx hb dX9_lineHere_74 (by decide) (fun c74_25 => ?_) (fun c74_25 => by exfalso; exact absurd c74_25 (by decide))
            refine lv_iload_n hx hb dX9_lineHere_99 rfl (lv_at hl 0 rfl) ?_
            refine lv_iconst (v := 1) hx hb dX9_lineHere_100 (by decide) ?_
            refine lv_icmp_ne (tgt := 125) hx hb dX9_lineHere_101 (by decide) (fun c101_26 => ?_) (fun c101_26 => by exfalso; exact absurd c101_26 (by decide))
            refine lv_iload_n hx hb dX9_lineHere_125 rfl (lv_at hl 0 rfl) ?_
            refine lv_iconst (v := 2) hx hb dX9_lineHere_126 (by decide) ?_
            refine lv_icmp_ne (tgt := 152) hx hb dX9_lineHere_127 (by decide) (fun c127_27 => ?_) (fun c127_27 => by exfalso; exact absurd c127_27 (by decide))
            refine lv_aload_n hx hb dX9_lineHere_152 rfl (lv_at hl 1 rfl) ?_
            refine va_get (D := (dC, dI)) (ci := 8) (v := .ref a0_21) (C := RX9) (T := TX9) (N := 44) hx hb hts inlX9 hown hK hP 0 rgL20_92b1330 rfl 21 (by decide) (hts (.fieldLink RX9 23 "ClosedUntilModel" "closures" "[I") qw_501) (fun _ h9 => h9) rfl dX9_lineHere_153 ?_
            refine lv_aload_n hx hb dX9_lineHere_156 rfl (lv_at hl 1 rfl) ?_
            refine va_get (D := (dC, dI)) (ci := 8) (v := .int a0_17) (C := RX9) (T := TX9) (N := 44) hx hb hts inlX9 hown hK hP 0 rgL20_92b1330 rfl 17 (by decide) (hts (.fieldLink RX9 256 "ClosedUntilModel" "bench" "I") qw_435) (fun _ h9 => h9) rfl dX9_lineHere_157 ?_
            refine va_iald hx hb hK hP 5 4 rgL20_411e303 rgT19_73edd8b (vinI (by omega) (by omega)) dX9_lineHere_160 ?_
            refine lv_topi (fun x28 e_x28 => ?_)
            have q_x28 := congrArg Int32.toInt e_x28
            have b_x28 : 0 ≤ x28.toInt ∧ x28.toInt ≤ 12 := vr_at (lo := 0) (hi := 12) (f := a0_21_f) h_a0_21_f e_x28
            refine lv_bipush (v := 12) hx hb dX9_lineHere_161 (by decide) ?_
            refine lv_icmp_ge (tgt := 170) hx hb dX9_lineHere_163 (by decide) (fun c163_29 => ?_) (fun c163_29 => ?_)
            · have c163_29 : 12 ≤ x28.toInt := (cv_le (by decide) rfl).mp c163_29
              refine lv_iconst (v := 0) hx hb dX9_lineHere_170 (by decide) ?_
              refine lv_istore_n (lv' := [(2, .int 0), (1, .int 3), (0, .ref a0)]) hx hb dX9_lineHere_171 rfl hl (by decide) rfl (fun ls hl => ?_)
              refine lv_aload_n hx hb dX9_lineHere_172 rfl (lv_at hl 2 rfl) ?_
              refine lv_iload_n hx hb dX9_lineHere_173 rfl (lv_at hl 0 rfl) ?_
              refine lv_iconst (v := 5) hx hb dX9_lineHere_174 (by decide) ?_
              have qc0 : (0 : Int32).toInt = 0 := by decide
              have qc5 : (5 : Int32).toInt = 5 := by decide
              have hPc := (rgP20_580fa52 hP)
              have hKc := (rgK19_5d0c76c hK)
              have hDc := (rgD20_ec33658 hD)
              have hFc := freeW hDc hS hA
              refine va_calli (va_runV (As := [.int 0, .int 5]) (rest := []) ⟨hx, hb, hml, hown, hts⟩ (k_X9_must l dC dI g H.size (a0) (0) (5) (a0_0) (a0_1) (a0_2) (a0_3) (a0_4) (a0_5) (a0_6) (a0_7) (a0_8) (a0_9) (a0_10) (a0_11) (za0_12_20) (za0_13_21) (a0_14) (a0_15) (a0_16) (a0_17) (a0_18) (a0_19) (a0_20) (a0_21) (a0_22) (a0_23) (a0_24) (a0_25) (a0_26) (a0_27) (a0_28) (a0_29) (a0_30) (a0_31) (a0_32) (a0_33) (a0_34) (a0_35) (a0_36) (a0_37) (a0_38) (a0_39) (a0_40) (a0_41) (a0_42) (a0_43) (by omega) (by omega) (by omega) (by omega) (by omega) (by omega) (by omega) (by omega)) (cwV 2 hts (gwV qw_472 qw_473 qw_474 qw_386 qw_471) rfl rfl rfl (by decide +kernel) ⟨Nat.le_of_ble_eq_true rfl, Nat.le_of_ble_eq_true rfl⟩) ⟨fun a U g9 mk q => ⟨q.1, q.2.1, q.2.2.1, va_K.moved (u := U) (U := U.calling g9 mk a) (Vm.Alike.refl U.vm) q.2.2.2.1, q.2.2.2.2.1, Ev.bl q.2.2.2.2.2⟩, va_recv hK hP (ci := 8) (q0 := 0) rfl rgL20_92b1330, fun U hU hW => ⟨rfl, by rw [hU], atB hU hPc, va_K.moved hW.alike hKc, hDc.weaken (fun _ _ _ _ => trivial), hE.go hS hFc hU hW⟩⟩ rfl rfl hl.1 rfl (lv_room (Nat.le_of_ble_eq_true rfl)) dX9_lineHere_175 ⟨Nat.le_of_ble_eq_true rfl, Nat.le_of_ble_eq_true rfl⟩) hS (fun q _ h => hFc q h) hFc (fun r31 u30 t H1 locs ht hvm h_u30 hB hz1 hk1 hS => ?_)
              obtain ⟨za0_12_32, za0_13_33, hF34, hF35, hP1, hK1, hD1⟩ := hB
              have hK1 := va_K.moved hvm.symm hK1
              have hJ9 := rgJ20_b6a011a hP hD hk1 hFc (atH ht hP1) hD1
              clear hP hD hPc hKc hDc hFc hP1 hD1 hk1 hz1
              obtain ⟨hP, hD⟩ := hJ9
              clear hK1
              generalize H1 = H at hP hS ⊢
              refine W.widen (k := 0) (n := 0) (Nat.le_of_ble_eq_true rfl) (Nat.le_of_ble_eq_true rfl) ?_
              have h_r31 := congrArg Int32.toInt h_u30
              have hz_r31 : r31 = 0 ∨ r31 = 1 := h_u30 ▸ hF34
              have b_r31 := z01 hz_r31
              refine cst (v := 0) (Int32.toInt_inj.mp (by rw [show (0 : Int32).toInt = 0 by decide]; omega)) ?_
              refine lv_if_ne (tgt := 183) hx hb dX9_lineHere_178 (by decide) (fun c178_36 => by exfalso; exact absurd c178_36 (by decide)) (fun c178_36 => ?_)
              refine lv_iconst (v := 0) hx hb dX9_lineHere_181 (by decide) ?_
              have qc0 : (0 : Int32).toInt = 0 := by decide
              refine W.widen (k := 0) (n := 0) (Nat.le_of_ble_eq_true rfl) (Nat.le_of_ble_eq_true rfl) ?_
              have hP9 := hP
              have hD9 := hD
              have hK9 := (rgK19_5d0c76c hK)
              have hf9_0 : (0 ≤ a0_7.toInt ∧ a0_7.toInt ≤ 1000) := by omega
              have hf9_1 : (0 ≤ a0_8.toInt ∧ a0_8.toInt ≤ 1000) := by omega
              have hf9_2 : ((-1) ≤ a0_37.toInt ∧ a0_37.toInt ≤ 23) := by omega
              have hf9_3 : vr 0 8 a0_18_f := h_a0_18_f
              have hf9_4 : vr 0 4 a0_19_f := h_a0_19_f
              have hf9_5 : vr 0 24 a0_20_f := h_a0_20_f
              have hf9_6 : vr 0 12 a0_21_f := h_a0_21_f
              have hf9_7 : ((0 : Int32) = 0 ∨ (0 : Int32) = 1) := (by decide)
              have hf9_8 : ((0 : Int32).toInt = 1 → (a0_18_f a0_17.toNatClampNeg).toInt + (a0_19_f a0_17.toNatClampNeg).toInt + (a0_20_f a0_17.toNatClampNeg).toInt + (a0_21_f a0_17.toNatClampNeg).toInt = (a0_18_f a0_17.toNatClampNeg).toInt + (a0_19_f a0_17.toNatClampNeg).toInt + (a0_20_f a0_17.toNatClampNeg).toInt + (a0_21_f a0_17.toNatClampNeg).toInt + 1) := by omega
              have hf9_9 : (KP 1 a0_20_f a0_20_f) := by first | exact KP.rf | assumption
              have hf9_10 : (KP 1 a0_21_f a0_21_f) := by first | exact KP.rf | assumption
              have hf9_11 : (KP 12 a0_32_f a0_32_f) := by first | exact KP.rf | assumption
              have hf9_12 : (KP 12 a0_33_f a0_33_f) := by first | exact KP.rf | assumption
              have hf9_13 : (PTOk a0_28_f (a0_20_f a0_17.toNatClampNeg).toInt) := by assumption
              have hf9_14 : (WOk a0_32_f a0_33_f 12 (a0_21_f a0_17.toNatClampNeg).toInt) := by assumption
              exact W.zret (v := 0) hx hb hr rfl (fun t ht hW => ⟨⟨0, 0, rfl, rfl, a0_7, a0_8, a0_9, a0_10, a0_11, za0_12_32, za0_13_33, a0_14, a0_15, a0_16, a0_36, a0_37, a0_18_f, a0_19_f, a0_20_f, a0_21_f, a0_22_f, a0_23_f, a0_24_f, a0_25_f, a0_26_f, a0_27_f, a0_28_f, a0_29_f, a0_30_f, a0_31_f, a0_32_f, a0_33_f, a0_34_f, a0_35_f, hf9_0, hf9_1, hf9_2, hf9_3, hf9_4, hf9_5, hf9_6, hf9_7, hf9_8, hf9_9, hf9_10, hf9_11, hf9_12, hf9_13, hf9_14, atB ht hP9, va_K.moved hW.alike hK9, hD9⟩, hS.F ht⟩) hS.2.2 dX9_lineHere_182
            · have c163_29 : ¬ (12 ≤ x28.toInt) := mt (cv_le (by decide) rfl).mpr c163_29
              refine lv_iconst (v := 1) hx hb dX9_lineHere_166 (by decide) ?_
              refine lv_goto (tgt := 171) hx hb dX9_lineHere_167 (by decide) ?_
              refine lv_istore_n (lv' := [(2, .int 1), (1, .int 3), (0, .ref a0)]) hx hb dX9_lineHere_171 rfl hl (by decide) rfl (fun ls hl => ?_)
              refine lv_aload_n hx hb dX9_lineHere_172 rfl (lv_at hl 2 rfl) ?_
              refine lv_iload_n hx hb dX9_lineHere_173 rfl (lv_at hl 0 rfl) ?_
              refine lv_iconst (v := 5) hx hb dX9_lineHere_174 (by decide) ?_
              have qc1 : (1 : Int32).toInt = 1 := by decide
              have qc5 : (5 : Int32).toInt = 5 := by decide
              have hPc := (rgP20_580fa52 hP)
              have hKc := (rgK19_5d0c76c hK)
              have hDc := (rgD20_ec33658 hD)
              have hFc := freeW hDc hS hA
              refine va_calli (va_runV (As := [.int 1, .int 5]) (rest := []) ⟨hx, hb, hml, hown, hts⟩ (k_X9_must l dC dI g H.size (a0) (1) (5) (a0_0) (a0_1) (a0_2) (a0_3) (a0_4) (a0_5) (a0_6) (a0_7) (a0_8) (a0_9) (a0_10) (a0_11) (za0_12_20) (za0_13_21) (a0_14) (a0_15) (a0_16) (a0_17) (a0_18) (a0_19) (a0_20) (a0_21) (a0_22) (a0_23) (a0_24) (a0_25) (a0_26) (a0_27) (a0_28) (a0_29) (a0_30) (a0_31) (a0_32) (a0_33) (a0_34) (a0_35) (a0_36) (a0_37) (a0_38) (a0_39) (a0_40) (a0_41) (a0_42) (a0_43) (by omega) (by omega) (by omega) (by omega) (by omega) (by omega) (by omega) (by omega)) (cwV 2 hts (gwV qw_472 qw_473 qw_474 qw_386 qw_471) rfl rfl rfl (by decide +kernel) ⟨Nat.le_of_ble_eq_true rfl, Nat.le_of_ble_eq_true rfl⟩) ⟨fun a U g9 mk q => ⟨q.1, q.2.1, q.2.2.1, va_K.moved (u := U) (U := U.calling g9 mk a) (Vm.Alike.refl U.vm) q.2.2.2.1, q.2.2.2.2.1, Ev.bl q.2.2.2.2.2⟩, va_recv hK hP (ci := 8) (q0 := 0) rfl rgL20_92b1330, fun U hU hW => ⟨rfl, by rw [hU], atB hU hPc, va_K.moved hW.alike hKc, hDc.weaken (fun _ _ _ _ => trivial), hE.go hS hFc hU hW⟩⟩ rfl rfl hl.1 rfl (lv_room (Nat.le_of_ble_eq_true rfl)) dX9_lineHere_175 ⟨Nat.le_of_ble_eq_true rfl, Nat.le_of_ble_eq_true rfl⟩) hS (fun q _ h => hFc q h) hFc (fun r38 u37 t H1 locs ht hvm h_u37 hB hz1 hk1 hS => ?_)
              obtain ⟨za0_12_39, za0_13_40, hF41, hF42, hP1, hK1, hD1⟩ := hB
              have hK1 := va_K.moved hvm.symm hK1
              have hJ9 := rgJ20_b6a011a hP hD hk1 hFc (atH ht hP1) hD1
              clear hP hD hPc hKc hDc hFc hP1 hD1 hk1 hz1
              obtain ⟨hP, hD⟩ := hJ9
              clear hK1
              generalize H1 = H at hP hS ⊢
              refine W.widen (k := 0) (n := 0) (Nat.le_of_ble_eq_true rfl) (Nat.le_of_ble_eq_true rfl) ?_
              have h_r38 := congrArg Int32.toInt h_u37
              have hz_r38 : r38 = 0 ∨ r38 = 1 := h_u37 ▸ hF41
              have b_r38 := z01 hz_r38
              refine lv_if_ne (tgt := 183) hx hb dX9_lineHere_178 (by decide) (fun c178_43 => ?_) (fun c178_43 => ?_)
              · have c178_43 : ¬ (r38.toInt = 0) := mt (cv_eq rfl (by decide)).mpr c178_43
                refine lv_aload_n hx hb dX9_lineHere_183 rfl (lv_at hl 2 rfl) ?_
                have hPc := (rgP20_5ec38fa hP)
                have hKc := (rgK19_4f62bf3 hK)
                have hDc := (rgD20_1e423f8 hD)
                have hFc := freeW hDc hS hA
                refine va_callv (va_runV (As := []) (rest := []) ⟨hx, hb, hml, hown, hts⟩ (k_X9_steps l dC dI g H.size (a0) (a0_0) (a0_1) (a0_2) (a0_3) (a0_4) (a0_5) (a0_6) (a0_7) (a0_8) (a0_9) (a0_10) (a0_11) (za0_12_39) (za0_13_40) (a0_14) (a0_15) (a0_16) (a0_17) (a0_18) (a0_19) (a0_20) (a0_21) (a0_22) (a0_23) (a0_24) (a0_25) (a0_26) (a0_27) (a0_28) (a0_29) (a0_30) (a0_31) (a0_32) (a0_33) (a0_34) (a0_35) (a0_36) (a0_37) (a0_38) (a0_39) (a0_40) (a0_41) (a0_42) (a0_43) (a0_4_c) (a0_4_f) (by omega) (by omega) (by omega) (by omega) (by omega) (by omega) (by omega)) (cwV 0 hts (gwV qw_468 qw_469 qw_470 qw_386 qw_467) rfl rfl rfl (by decide +kernel) ⟨Nat.le_of_ble_eq_true rfl, Nat.le_of_ble_eq_true rfl⟩) ⟨fun a U g9 mk q => ⟨q.1, q.2.1, q.2.2.1, va_K.moved (u := U) (U := U.calling g9 mk a) (Vm.Alike.refl U.vm) q.2.2.2.1, q.2.2.2.2.1, Ev.bl q.2.2.2.2.2⟩, va_recv hK hP (ci := 8) (q0 := 0) rfl rgL20_92b1330, fun U hU hW => ⟨rfl, by rw [hU], atB hU hPc, va_K.moved hW.alike hKc, hDc.weaken (fun _ _ _ _ => trivial), hE.go hS hFc hU hW⟩⟩ rfl rfl hl.1 rfl (lv_room (Nat.le_of_ble_eq_true rfl)) dX9_lineHere_184 ⟨Nat.le_of_ble_eq_true rfl, Nat.le_of_ble_eq_true rfl⟩) hS (fun q _ h => hFc q h) hFc (fun u44 t H1 locs ht hvm h_u44 hB hz1 hk1 hS => ?_)
                obtain ⟨za0_7_46, za0_8_47, za0_9_48, za0_10_49, za0_11_50, hF51, hF52, hP1, hK1, hD1⟩ := hB
                have hK1 := va_K.moved hvm.symm hK1
                have hJ9 := rgJ20_0050ee0 hP hD hk1 hFc (atH ht hP1) hD1
                clear hP hD hPc hKc hDc hFc hP1 hD1 hk1 hz1
                obtain ⟨hP, hD⟩ := hJ9
                clear hK1
                generalize H1 = H at hP hS ⊢
                refine W.widen (k := 0) (n := 0) (Nat.le_of_ble_eq_true rfl) (Nat.le_of_ble_eq_true rfl) ?_
                refine lv_iload_n hx hb dX9_lineHere_187 rfl (lv_at hl 1 rfl) ?_
                refine lv_if_ne (tgt := 198) hx hb dX9_lineHere_188 (by decide) (fun c188_53 => ?_) (fun c188_53 => by exfalso; exact absurd c188_53 (by decide))
                refine lv_iload_n hx hb dX9_lineHere_198 rfl (lv_at hl 1 rfl) ?_
                refine lv_iconst (v := 1) hx hb dX9_lineHere_199 (by decide) ?_
                refine lv_icmp_ne (tgt := 210) hx hb dX9_lineHere_200 (by decide) (fun c200_54 => ?_) (fun c200_54 => by exfalso; exact absurd c200_54 (by decide))
                refine lv_iload_n hx hb dX9_lineHere_210 rfl (lv_at hl 1 rfl) ?_
                refine lv_iconst (v := 2) hx hb dX9_lineHere_211 (by decide) ?_
                refine lv_icmp_ne (tgt := 222) hx hb dX9_lineHere_212 (by decide) (fun c212_55 => ?_) (fun c212_55 => by exfalso; exact absurd c212_55 (by decide))
                refine lv_aload_n hx hb dX9_lineHere_222 rfl (lv_at hl 2 rfl) ?_
                have hPc := (rgP20_50b88ac hP)
                have hKc := (rgK19_e7519c3 hK)
                have hDc := (rgD20_261c6cd hD)
                have hFc := freeW hDc hS hA
                refine va_calli (va_runV (As := []) (rest := []) ⟨hx, hb, hml, hown, hts⟩ (k_X9_closeLine l dC dI g H.size (a0) (a0_0) (a0_1) (a0_2) (a0_3) (a0_4) (a0_5) (a0_6) (za0_7_46) (za0_8_47) (za0_9_48) (za0_10_49) (za0_11_50) (za0_12_39) (za0_13_40) (a0_14) (a0_15) (a0_16) (a0_17) (a0_18) (a0_19) (a0_20) (a0_21) (a0_22) (a0_23) (a0_24) (a0_25) (a0_26) (a0_27) (a0_28) (a0_29) (a0_30) (a0_31) (a0_32) (a0_33) (a0_34) (a0_35) (a0_36) (a0_37) (a0_38) (a0_39) (a0_40) (a0_41) (a0_42) (a0_43) (a0_4_c) (a0_4_f) (a0_18_c) (a0_18_f) (a0_19_c) (a0_19_f) (a0_20_c) (a0_20_f) (a0_21_c) (a0_21_f) (a0_22_c) (a0_22_f) (a0_25_c) (a0_25_f) (a0_27_c) (a0_27_f) (a0_32_c) (a0_32_f) (a0_33_c) (a0_33_f) (a0_34_c) (a0_34_f) (a0_35_c) (a0_35_f) (by omega) (by omega) (by omega) (by omega) (by omega) (by omega) (by omega) h_a0_18_f h_a0_19_f h_a0_20_f h_a0_21_f (by omega) (by omega) (by assumption)) (cwV 0 hts (gwV qw_577 qw_578 qw_579 qw_386 qw_576) rfl rfl rfl (by decide +kernel) ⟨Nat.le_of_ble_eq_true rfl, Nat.le_of_ble_eq_true rfl⟩) ⟨fun a U g9 mk q => ⟨q.1, q.2.1, q.2.2.1, va_K.moved (u := U) (U := U.calling g9 mk a) (Vm.Alike.refl U.vm) q.2.2.2.1, q.2.2.2.2.1, Ev.bl q.2.2.2.2.2⟩, va_recv hK hP (ci := 8) (q0 := 0) rfl rgL20_92b1330, fun U hU hW => ⟨rfl, by rw [hU], atB hU hPc, va_K.moved hW.alike hKc, hDc.weaken (fun _ _ _ _ => trivial), hE.go hS hFc hU hW⟩⟩ rfl rfl hl.1 rfl (lv_room (Nat.le_of_ble_eq_true rfl)) dX9_lineHere_223 ⟨Nat.le_of_ble_eq_true rfl, Nat.le_of_ble_eq_true rfl⟩) hS (fun q _ h => hFc q h) hFc (fun r57 u56 t H1 locs ht hvm h_u56 hB hz1 hk1 hS => ?_)
                obtain ⟨za0_7_58, za0_8_59, za0_9_60, za0_10_61, za0_11_62, za0_12_63, za0_13_64, za0_14_65, za0_15_66, za0_16_67, za0_37_68, za0_21_f_69, za0_32_f_70, za0_33_f_71, za0_34_f_72, za0_35_f_73, hF74, hF75, hF76, hF77, hF78, hF79, hF80, hF81, hF82, hF83, hP1, hK1, hD1⟩ := hB
                have hK1 := va_K.moved hvm.symm hK1
                have hJ9 := rgJ20_abd120d hP hD hk1 hFc (atH ht hP1) hD1
                clear hP hD hPc hKc hDc hFc hP1 hD1 hk1 hz1
                obtain ⟨hP, hD⟩ := hJ9
                clear hK1
                generalize H1 = H at hP hS ⊢
                refine W.widen (k := 0) (n := 0) (Nat.le_of_ble_eq_true rfl) (Nat.le_of_ble_eq_true rfl) ?_
                have h_r57 := congrArg Int32.toInt h_u56
                have hz_r57 : r57 = 0 ∨ r57 = 1 := h_u56 ▸ hF78
                have b_r57 := z01 hz_r57
                refine lv_istore_n (lv' := [(3, .int r57), (2, .int 1), (1, .int 3), (0, .ref a0)]) hx hb dX9_lineHere_226 rfl hl (by decide) rfl (fun ls hl => ?_)
                refine lv_iload_n hx hb dX9_lineHere_227 rfl (lv_at hl 0 rfl) ?_
                refine lv_if_eq (tgt := 252) hx hb dX9_lineHere_228 (by decide) (fun c228_84 => ?_) (fun c228_84 => ?_)
                · have c228_84 : r57.toInt = 0 := (cv_eq rfl (by decide)).mp c228_84
                  refine lv_iconst (v := 0) hx hb dX9_lineHere_252 (by decide) ?_
                  have qc0 : (0 : Int32).toInt = 0 := by decide
                  refine W.widen (k := 0) (n := 0) (Nat.le_of_ble_eq_true rfl) (Nat.le_of_ble_eq_true rfl) ?_
                  have hP9 := hP
                  have hD9 := hD
                  have hK9 := (rgK19_5d0c76c hK)
                  have hf9_0 : (0 ≤ za0_7_58.toInt ∧ za0_7_58.toInt ≤ 1000) := by omega
                  have hf9_1 : (0 ≤ za0_8_59.toInt ∧ za0_8_59.toInt ≤ 1000) := by omega
                  have hf9_2 : ((-1) ≤ za0_37_68.toInt ∧ za0_37_68.toInt ≤ 23) := by omega
                  have hf9_3 : vr 0 8 a0_18_f := h_a0_18_f
                  have hf9_4 : vr 0 4 a0_19_f := h_a0_19_f
                  have hf9_5 : vr 0 24 a0_20_f := h_a0_20_f
                  have hf9_6 : vr 0 12 za0_21_f_69 := hF77
                  have hf9_7 : ((0 : Int32) = 0 ∨ (0 : Int32) = 1) := (by decide)
                  have hf9_8 : ((0 : Int32).toInt = 1 → (a0_18_f a0_17.toNatClampNeg).toInt + (a0_19_f a0_17.toNatClampNeg).toInt + (a0_20_f a0_17.toNatClampNeg).toInt + (za0_21_f_69 a0_17.toNatClampNeg).toInt = (a0_18_f a0_17.toNatClampNeg).toInt + (a0_19_f a0_17.toNatClampNeg).toInt + (a0_20_f a0_17.toNatClampNeg).toInt + (a0_21_f a0_17.toNatClampNeg).toInt + 1) := by omega
                  have hf9_9 : (KP 1 a0_20_f a0_20_f) := by first | exact KP.rf | assumption
                  have hf9_10 : (KP 1 a0_21_f za0_21_f_69) := by first | exact KP.rf | assumption
                  have hf9_11 : (KP 12 a0_32_f za0_32_f_70) := by first | exact KP.rf | assumption
                  have hf9_12 : (KP 12 a0_33_f za0_33_f_71) := by first | exact KP.rf | assumption
                  have hf9_13 : (PTOk a0_28_f (a0_20_f a0_17.toNatClampNeg).toInt) := by assumption
                  have hf9_14 : (WOk za0_32_f_70 za0_33_f_71 12 (za0_21_f_69 a0_17.toNatClampNeg).toInt) := by assumption
                  exact W.zret (v := 0) hx hb hr rfl (fun t ht hW => ⟨⟨0, 0, rfl, rfl, za0_7_58, za0_8_59, za0_9_60, za0_10_61, za0_11_62, za0_12_63, za0_13_64, za0_14_65, za0_15_66, za0_16_67, a0_36, za0_37_68, a0_18_f, a0_19_f, a0_20_f, za0_21_f_69, a0_22_f, a0_23_f, a0_24_f, a0_25_f, a0_26_f, a0_27_f, a0_28_f, a0_29_f, a0_30_f, a0_31_f, za0_32_f_70, za0_33_f_71, za0_34_f_72, za0_35_f_73, hf9_0, hf9_1, hf9_2, hf9_3, hf9_4, hf9_5, hf9_6, hf9_7, hf9_8, hf9_9, hf9_10, hf9_11, hf9_12, hf9_13, hf9_14, atB ht hP9, va_K.moved hW.alike hK9, hD9⟩, hS.F ht⟩) hS.2.2 dX9_lineHere_253
                · have c228_84 : ¬ (r57.toInt = 0) := mt (cv_eq rfl (by decide)).mpr c228_84
                  refine lv_aload_n hx hb dX9_lineHere_231 rfl (lv_at hl 3 rfl) ?_
                  refine lv_aload_n hx hb dX9_lineHere_232 rfl (lv_at hl 3 rfl) ?_
                  refine va_get (D := (dC, dI)) (ci := 8) (v := .int za0_9_60) (C := RX9) (T := TX9) (N := 44) hx hb hts inlX9 hown hK hP 0 rgL20_92b1330 rfl 9 (by decide) (hts (.fieldLink RX9 160 "ClosedUntilModel" "token" "I") qw_421) (fun _ h9 => h9) rfl dX9_lineHere_233 ?_
                  refine lv_iconst (v := 3) hx hb dX9_lineHere_236 (by decide) ?_
                  refine lv_icmp_ne (tgt := 244) hx hb dX9_lineHere_237 (by decide) (fun c237_85 => ?_) (fun c237_85 => ?_)
                  · have c237_85 : ¬ (za0_9_60.toInt = 3) := mt (cv_eq rfl (by decide)).mpr c237_85
                    refine lv_iconst (v := 0) hx hb dX9_lineHere_244 (by decide) ?_
                    refine lv_iconst (v := 1) hx hb dX9_lineHere_245 (by decide) ?_
                    have qc0 : (0 : Int32).toInt = 0 := by decide
                    have qc1 : (1 : Int32).toInt = 1 := by decide
                    have hPc := (rgP20_580fa52 hP)
                    have hKc := (rgK19_5d0c76c hK)
                    have hDc := (rgD20_ec33658 hD)
                    have hFc := freeW hDc hS hA
                    refine va_calli (va_runV (As := [.int 0, .int 1]) (rest := []) ⟨hx, hb, hml, hown, hts⟩ (k_X9_must l dC dI g H.size (a0) (0) (1) (a0_0) (a0_1) (a0_2) (a0_3) (a0_4) (a0_5) (a0_6) (za0_7_58) (za0_8_59) (za0_9_60) (za0_10_61) (za0_11_62) (za0_12_63) (za0_13_64) (za0_14_65) (za0_15_66) (za0_16_67) (a0_17) (a0_18) (a0_19) (a0_20) (a0_21) (a0_22) (a0_23) (a0_24) (a0_25) (a0_26) (a0_27) (a0_28) (a0_29) (a0_30) (a0_31) (a0_32) (a0_33) (a0_34) (a0_35) (a0_36) (za0_37_68) (a0_38) (a0_39) (a0_40) (a0_41) (a0_42) (a0_43) (by omega) (by omega) (by omega) (by omega) (by omega) (by omega) (by omega) (by omega)) (cwV 2 hts (gwV qw_472 qw_473 qw_474 qw_386 qw_471) rfl rfl rfl (by decide +kernel) ⟨Nat.le_of_ble_eq_true rfl, Nat.le_of_ble_eq_true rfl⟩) ⟨fun a U g9 mk q => ⟨q.1, q.2.1, q.2.2.1, va_K.moved (u := U) (U := U.calling g9 mk a) (Vm.Alike.refl U.vm) q.2.2.2.1, q.2.2.2.2.1, Ev.bl q.2.2.2.2.2⟩, va_recv hK hP (ci := 8) (q0 := 0) rfl rgL20_92b1330, fun U hU hW => ⟨rfl, by rw [hU], atB hU hPc, va_K.moved hW.alike hKc, hDc.weaken (fun _ _ _ _ => trivial), hE.go hS hFc hU hW⟩⟩ rfl rfl hl.1 rfl (lv_room (Nat.le_of_ble_eq_true rfl)) dX9_lineHere_246 ⟨Nat.le_of_ble_eq_true rfl, Nat.le_of_ble_eq_true rfl⟩) hS (fun q _ h => hFc q h) hFc (fun r87 u86 t H1 locs ht hvm h_u86 hB hz1 hk1 hS => ?_)
                    obtain ⟨za0_12_88, za0_13_89, hF90, hF91, hP1, hK1, hD1⟩ := hB
                    have hK1 := va_K.moved hvm.symm hK1
                    have hJ9 := rgJ20_b6a011a hP hD hk1 hFc (atH ht hP1) hD1
                    clear hP hD hPc hKc hDc hFc hP1 hD1 hk1 hz1
                    obtain ⟨hP, hD⟩ := hJ9
                    clear hK1
                    generalize H1 = H at hP hS ⊢
                    refine W.widen (k := 0) (n := 0) (Nat.le_of_ble_eq_true rfl) (Nat.le_of_ble_eq_true rfl) ?_
                    have h_r87 := congrArg Int32.toInt h_u86
                    have hz_r87 : r87 = 0 ∨ r87 = 1 := h_u86 ▸ hF90
                    have b_r87 := z01 hz_r87
                    refine cst (v := 0) (Int32.toInt_inj.mp (by rw [show (0 : Int32).toInt = 0 by decide]; omega)) ?_
                    refine lv_if_ne (tgt := 254) hx hb dX9_lineHere_249 (by decide) (fun c249_92 => by exfalso; exact absurd c249_92 (by decide)) (fun c249_92 => ?_)
                    refine lv_iconst (v := 0) hx hb dX9_lineHere_252 (by decide) ?_
                    have qc0 : (0 : Int32).toInt = 0 := by decide
                    refine W.widen (k := 0) (n := 0) (Nat.le_of_ble_eq_true rfl) (Nat.le_of_ble_eq_true rfl) ?_
                    have hP9 := hP
                    have hD9 := hD
                    have hK9 := (rgK19_5d0c76c hK)
                    have hf9_0 : (0 ≤ za0_7_58.toInt ∧ za0_7_58.toInt ≤ 1000) := by omega
                    have hf9_1 : (0 ≤ za0_8_59.toInt ∧ za0_8_59.toInt ≤ 1000) := by omega
                    have hf9_2 : ((-1) ≤ za0_37_68.toInt ∧ za0_37_68.toInt ≤ 23) := by omega
                    have hf9_3 : vr 0 8 a0_18_f := h_a0_18_f
                    have hf9_4 : vr 0 4 a0_19_f := h_a0_19_f
                    have hf9_5 : vr 0 24 a0_20_f := h_a0_20_f
                    have hf9_6 : vr 0 12 za0_21_f_69 := hF77
                    have hf9_7 : ((0 : Int32) = 0 ∨ (0 : Int32) = 1) := (by decide)
                    have hf9_8 : ((0 : Int32).toInt = 1 → (a0_18_f a0_17.toNatClampNeg).toInt + (a0_19_f a0_17.toNatClampNeg).toInt + (a0_20_f a0_17.toNatClampNeg).toInt + (za0_21_f_69 a0_17.toNatClampNeg).toInt = (a0_18_f a0_17.toNatClampNeg).toInt + (a0_19_f a0_17.toNatClampNeg).toInt + (a0_20_f a0_17.toNatClampNeg).toInt + (a0_21_f a0_17.toNatClampNeg).toInt + 1) := by omega
                    have hf9_9 : (KP 1 a0_20_f a0_20_f) := by first | exact KP.rf | assumption
                    have hf9_10 : (KP 1 a0_21_f za0_21_f_69) := by first | exact KP.rf | assumption
                    have hf9_11 : (KP 12 a0_32_f za0_32_f_70) := by first | exact KP.rf | assumption
                    have hf9_12 : (KP 12 a0_33_f za0_33_f_71) := by first | exact KP.rf | assumption
                    have hf9_13 : (PTOk a0_28_f (a0_20_f a0_17.toNatClampNeg).toInt) := by assumption
                    have hf9_14 : (WOk za0_32_f_70 za0_33_f_71 12 (za0_21_f_69 a0_17.toNatClampNeg).toInt) := by assumption
                    exact W.zret (v := 0) hx hb hr rfl (fun t ht hW => ⟨⟨0, 0, rfl, rfl, za0_7_58, za0_8_59, za0_9_60, za0_10_61, za0_11_62, za0_12_88, za0_13_89, za0_14_65, za0_15_66, za0_16_67, a0_36, za0_37_68, a0_18_f, a0_19_f, a0_20_f, za0_21_f_69, a0_22_f, a0_23_f, a0_24_f, a0_25_f, a0_26_f, a0_27_f, a0_28_f, a0_29_f, a0_30_f, a0_31_f, za0_32_f_70, za0_33_f_71, za0_34_f_72, za0_35_f_73, hf9_0, hf9_1, hf9_2, hf9_3, hf9_4, hf9_5, hf9_6, hf9_7, hf9_8, hf9_9, hf9_10, hf9_11, hf9_12, hf9_13, hf9_14, atB ht hP9, va_K.moved hW.alike hK9, hD9⟩, hS.F ht⟩) hS.2.2 dX9_lineHere_253
                  · have c237_85 : za0_9_60.toInt = 3 := (cv_eq rfl (by decide)).mp c237_85
                    refine lv_iconst (v := 1) hx hb dX9_lineHere_240 (by decide) ?_
                    refine lv_goto (tgt := 245) hx hb dX9_lineHere_241 (by decide) ?_
                    refine lv_iconst (v := 1) hx hb dX9_lineHere_245 (by decide) ?_
                    have qc1 : (1 : Int32).toInt = 1 := by decide
                    have hPc := (rgP20_580fa52 hP)
                    have hKc := (rgK19_5d0c76c hK)
                    have hDc := (rgD20_ec33658 hD)
                    have hFc := freeW hDc hS hA
                    refine va_calli (va_runV (As := [.int 1, .int 1]) (rest := []) ⟨hx, hb, hml, hown, hts⟩ (k_X9_must l dC dI g H.size (a0) (1) (1) (a0_0) (a0_1) (a0_2) (a0_3) (a0_4) (a0_5) (a0_6) (za0_7_58) (za0_8_59) (za0_9_60) (za0_10_61) (za0_11_62) (za0_12_63) (za0_13_64) (za0_14_65) (za0_15_66) (za0_16_67) (a0_17) (a0_18) (a0_19) (a0_20) (a0_21) (a0_22) (a0_23) (a0_24) (a0_25) (a0_26) (a0_27) (a0_28) (a0_29) (a0_30) (a0_31) (a0_32) (a0_33) (a0_34) (a0_35) (a0_36) (za0_37_68) (a0_38) (a0_39) (a0_40) (a0_41) (a0_42) (a0_43) (by omega) (by omega) (by omega) (by omega) (by omega) (by omega) (by omega) (by omega)) (cwV 2 hts (gwV qw_472 qw_473 qw_474 qw_386 qw_471) rfl rfl rfl (by decide +kernel) ⟨Nat.le_of_ble_eq_true rfl, Nat.le_of_ble_eq_true rfl⟩) ⟨fun a U g9 mk q => ⟨q.1, q.2.1, q.2.2.1, va_K.moved (u := U) (U := U.calling g9 mk a) (Vm.Alike.refl U.vm) q.2.2.2.1, q.2.2.2.2.1, Ev.bl q.2.2.2.2.2⟩, va_recv hK hP (ci := 8) (q0 := 0) rfl rgL20_92b1330, fun U hU hW => ⟨rfl, by rw [hU], atB hU hPc, va_K.moved hW.alike hKc, hDc.weaken (fun _ _ _ _ => trivial), hE.go hS hFc hU hW⟩⟩ rfl rfl hl.1 rfl (lv_room (Nat.le_of_ble_eq_true rfl)) dX9_lineHere_246 ⟨Nat.le_of_ble_eq_true rfl, Nat.le_of_ble_eq_true rfl⟩) hS (fun q _ h => hFc q h) hFc (fun r94 u93 t H1 locs ht hvm h_u93 hB hz1 hk1 hS => ?_)
                    obtain ⟨za0_12_95, za0_13_96, hF97, hF98, hP1, hK1, hD1⟩ := hB
                    have hK1 := va_K.moved hvm.symm hK1
                    have hJ9 := rgJ20_b6a011a hP hD hk1 hFc (atH ht hP1) hD1
                    clear hP hD hPc hKc hDc hFc hP1 hD1 hk1 hz1
                    obtain ⟨hP, hD⟩ := hJ9
                    clear hK1
                    generalize H1 = H at hP hS ⊢
                    refine W.widen (k := 0) (n := 0) (Nat.le_of_ble_eq_true rfl) (Nat.le_of_ble_eq_true rfl) ?_
                    have h_r94 := congrArg Int32.toInt h_u93
                    have hz_r94 : r94 = 0 ∨ r94 = 1 := h_u93 ▸ hF97
                    have b_r94 := z01 hz_r94
                    refine lv_if_ne (tgt := 254) hx hb dX9_lineHere_249 (by decide) (fun c249_99 => ?_) (fun c249_99 => ?_)
                    · have c249_99 : ¬ (r94.toInt = 0) := mt (cv_eq rfl (by decide)).mpr c249_99
                      refine lv_aload_n hx hb dX9_lineHere_254 rfl (lv_at hl 3 rfl) ?_
                      have hPc := (rgP20_5ec38fa hP)
                      have hKc := (rgK19_4f62bf3 hK)
                      have hDc := (rgD20_1e423f8 hD)
                      have hFc := freeW hDc hS hA
                      refine va_callv (va_runV (As := []) (rest := []) ⟨hx, hb, hml, hown, hts⟩ (k_X9_steps l dC dI g H.size (a0) (a0_0) (a0_1) (a0_2) (a0_3) (a0_4) (a0_5) (a0_6) (za0_7_58) (za0_8_59) (za0_9_60) (za0_10_61) (za0_11_62) (za0_12_95) (za0_13_96) (za0_14_65) (za0_15_66) (za0_16_67) (a0_17) (a0_18) (a0_19) (a0_20) (a0_21) (a0_22) (a0_23) (a0_24) (a0_25) (a0_26) (a0_27) (a0_28) (a0_29) (a0_30) (a0_31) (a0_32) (a0_33) (a0_34) (a0_35) (a0_36) (za0_37_68) (a0_38) (a0_39) (a0_40) (a0_41) (a0_42) (a0_43) (a0_4_c) (a0_4_f) (by omega) (by omega) (by omega) (by omega) (by omega) (by omega) (by omega)) (cwV 0 hts (gwV qw_468 qw_469 qw_470 qw_386 qw_467) rfl rfl rfl (by decide +kernel) ⟨Nat.le_of_ble_eq_true rfl, Nat.le_of_ble_eq_true rfl⟩) ⟨fun a U g9 mk q => ⟨q.1, q.2.1, q.2.2.1, va_K.moved (u := U) (U := U.calling g9 mk a) (Vm.Alike.refl U.vm) q.2.2.2.1, q.2.2.2.2.1, Ev.bl q.2.2.2.2.2⟩, va_recv hK hP (ci := 8) (q0 := 0) rfl rgL20_92b1330, fun U hU hW => ⟨rfl, by rw [hU], atB hU hPc, va_K.moved hW.alike hKc, hDc.weaken (fun _ _ _ _ => trivial), hE.go hS hFc hU hW⟩⟩ rfl rfl hl.1 rfl (lv_room (Nat.le_of_ble_eq_true rfl)) dX9_lineHere_255 ⟨Nat.le_of_ble_eq_true rfl, Nat.le_of_ble_eq_true rfl⟩) hS (fun q _ h => hFc q h) hFc (fun u100 t H1 locs ht hvm h_u100 hB hz1 hk1 hS => ?_)
                      obtain ⟨za0_7_102, za0_8_103, za0_9_104, za0_10_105, za0_11_106, hF107, hF108, hP1, hK1, hD1⟩ := hB
                      have hK1 := va_K.moved hvm.symm hK1
                      have hJ9 := rgJ20_0050ee0 hP hD hk1 hFc (atH ht hP1) hD1
                      clear hP hD hPc hKc hDc hFc hP1 hD1 hk1 hz1
                      obtain ⟨hP, hD⟩ := hJ9
                      clear hK1
                      generalize H1 = H at hP hS ⊢
                      refine W.widen (k := 0) (n := 0) (Nat.le_of_ble_eq_true rfl) (Nat.le_of_ble_eq_true rfl) ?_
                      refine lv_iconst (v := 1) hx hb dX9_lineHere_258 (by decide) ?_
                      have qc1 : (1 : Int32).toInt = 1 := by decide
                      refine W.widen (k := 0) (n := 0) (Nat.le_of_ble_eq_true rfl) (Nat.le_of_ble_eq_true rfl) ?_
                      have hP9 := hP
                      have hD9 := hD
                      have hK9 := (rgK19_5d0c76c hK)
                      have hf9_0 : (0 ≤ za0_7_102.toInt ∧ za0_7_102.toInt ≤ 1000) := by omega
                      have hf9_1 : (0 ≤ za0_8_103.toInt ∧ za0_8_103.toInt ≤ 1000) := by omega
                      have hf9_2 : ((-1) ≤ za0_37_68.toInt ∧ za0_37_68.toInt ≤ 23) := by omega
                      have hf9_3 : vr 0 8 a0_18_f := h_a0_18_f
                      have hf9_4 : vr 0 4 a0_19_f := h_a0_19_f
                      have hf9_5 : vr 0 24 a0_20_f := h_a0_20_f
                      have hf9_6 : vr 0 12 za0_21_f_69 := hF77
                      have hf9_7 : ((1 : Int32) = 0 ∨ (1 : Int32) = 1) := (by decide)
                      have hf9_8 : ((1 : Int32).toInt = 1 → (a0_18_f a0_17.toNatClampNeg).toInt + (a0_19_f a0_17.toNatClampNeg).toInt + (a0_20_f a0_17.toNatClampNeg).toInt + (za0_21_f_69 a0_17.toNatClampNeg).toInt = (a0_18_f a0_17.toNatClampNeg).toInt + (a0_19_f a0_17.toNatClampNeg).toInt + (a0_20_f a0_17.toNatClampNeg).toInt + (a0_21_f a0_17.toNatClampNeg).toInt + 1) := by omega
                      have hf9_9 : (KP 1 a0_20_f a0_20_f) := by first | exact KP.rf | assumption
                      have hf9_10 : (KP 1 a0_21_f za0_21_f_69) := by first | exact KP.rf | assumption
                      have hf9_11 : (KP 12 a0_32_f za0_32_f_70) := by first | exact KP.rf | assumption
                      have hf9_12 : (KP 12 a0_33_f za0_33_f_71) := by first | exact KP.rf | assumption
                      have hf9_13 : (PTOk a0_28_f (a0_20_f a0_17.toNatClampNeg).toInt) := by assumption
                      have hf9_14 : (WOk za0_32_f_70 za0_33_f_71 12 (za0_21_f_69 a0_17.toNatClampNeg).toInt) := by assumption
                      exact W.zret (v := 1) hx hb hr rfl (fun t ht hW => ⟨⟨1, 1, rfl, rfl, za0_7_102, za0_8_103, za0_9_104, za0_10_105, za0_11_106, za0_12_95, za0_13_96, za0_14_65, za0_15_66, za0_16_67, a0_36, za0_37_68, a0_18_f, a0_19_f, a0_20_f, za0_21_f_69, a0_22_f, a0_23_f, a0_24_f, a0_25_f, a0_26_f, a0_27_f, a0_28_f, a0_29_f, a0_30_f, a0_31_f, za0_32_f_70, za0_33_f_71, za0_34_f_72, za0_35_f_73, hf9_0, hf9_1, hf9_2, hf9_3, hf9_4, hf9_5, hf9_6, hf9_7, hf9_8, hf9_9, hf9_10, hf9_11, hf9_12, hf9_13, hf9_14, atB ht hP9, va_K.moved hW.alike hK9, hD9⟩, hS.F ht⟩) hS.2.2 dX9_lineHere_259
                    · have c249_99 : r94.toInt = 0 := (cv_eq rfl (by decide)).mp c249_99
                      refine lv_iconst (v := 0) hx hb dX9_lineHere_252 (by decide) ?_
                      have qc0 : (0 : Int32).toInt = 0 := by decide
                      refine W.widen (k := 0) (n := 0) (Nat.le_of_ble_eq_true rfl) (Nat.le_of_ble_eq_true rfl) ?_
                      have hP9 := hP
                      have hD9 := hD
                      have hK9 := (rgK19_5d0c76c hK)
                      have hf9_0 : (0 ≤ za0_7_58.toInt ∧ za0_7_58.toInt ≤ 1000) := by omega
                      have hf9_1 : (0 ≤ za0_8_59.toInt ∧ za0_8_59.toInt ≤ 1000) := by omega
                      have hf9_2 : ((-1) ≤ za0_37_68.toInt ∧ za0_37_68.toInt ≤ 23) := by omega
                      have hf9_3 : vr 0 8 a0_18_f := h_a0_18_f
                      have hf9_4 : vr 0 4 a0_19_f := h_a0_19_f
                      have hf9_5 : vr 0 24 a0_20_f := h_a0_20_f
                      have hf9_6 : vr 0 12 za0_21_f_69 := hF77
                      have hf9_7 : ((0 : Int32) = 0 ∨ (0 : Int32) = 1) := (by decide)
                      have hf9_8 : ((0 : Int32).toInt = 1 → (a0_18_f a0_17.toNatClampNeg).toInt + (a0_19_f a0_17.toNatClampNeg).toInt + (a0_20_f a0_17.toNatClampNeg).toInt + (za0_21_f_69 a0_17.toNatClampNeg).toInt = (a0_18_f a0_17.toNatClampNeg).toInt + (a0_19_f a0_17.toNatClampNeg).toInt + (a0_20_f a0_17.toNatClampNeg).toInt + (a0_21_f a0_17.toNatClampNeg).toInt + 1) := by omega
                      have hf9_9 : (KP 1 a0_20_f a0_20_f) := by first | exact KP.rf | assumption
                      have hf9_10 : (KP 1 a0_21_f za0_21_f_69) := by first | exact KP.rf | assumption
                      have hf9_11 : (KP 12 a0_32_f za0_32_f_70) := by first | exact KP.rf | assumption
                      have hf9_12 : (KP 12 a0_33_f za0_33_f_71) := by first | exact KP.rf | assumption
                      have hf9_13 : (PTOk a0_28_f (a0_20_f a0_17.toNatClampNeg).toInt) := by assumption
                      have hf9_14 : (WOk za0_32_f_70 za0_33_f_71 12 (za0_21_f_69 a0_17.toNatClampNeg).toInt) := by assumption
                      exact W.zret (v := 0) hx hb hr rfl (fun t ht hW => ⟨⟨0, 0, rfl, rfl, za0_7_58, za0_8_59, za0_9_60, za0_10_61, za0_11_62, za0_12_95, za0_13_96, za0_14_65, za0_15_66, za0_16_67, a0_36, za0_37_68, a0_18_f, a0_19_f, a0_20_f, za0_21_f_69, a0_22_f, a0_23_f, a0_24_f, a0_25_f, a0_26_f, a0_27_f, a0_28_f, a0_29_f, a0_30_f, a0_31_f, za0_32_f_70, za0_33_f_71, za0_34_f_72, za0_35_f_73, hf9_0, hf9_1, hf9_2, hf9_3, hf9_4, hf9_5, hf9_6, hf9_7, hf9_8, hf9_9, hf9_10, hf9_11, hf9_12, hf9_13, hf9_14, atB ht hP9, va_K.moved hW.alike hK9, hD9⟩, hS.F ht⟩) hS.2.2 dX9_lineHere_253
              · have c178_43 : r38.toInt = 0 := (cv_eq rfl (by decide)).mp c178_43
                refine lv_iconst (v := 0) hx hb dX9_lineHere_181 (by decide) ?_
                have qc0 : (0 : Int32).toInt = 0 := by decide
                refine W.widen (k := 0) (n := 0) (Nat.le_of_ble_eq_true rfl) (Nat.le_of_ble_eq_true rfl) ?_
                have hP9 := hP
                have hD9 := hD
                have hK9 := (rgK19_5d0c76c hK)
                have hf9_0 : (0 ≤ a0_7.toInt ∧ a0_7.toInt ≤ 1000) := by omega
                have hf9_1 : (0 ≤ a0_8.toInt ∧ a0_8.toInt ≤ 1000) := by omega
                have hf9_2 : ((-1) ≤ a0_37.toInt ∧ a0_37.toInt ≤ 23) := by omega
                have hf9_3 : vr 0 8 a0_18_f := h_a0_18_f
                have hf9_4 : vr 0 4 a0_19_f := h_a0_19_f
                have hf9_5 : vr 0 24 a0_20_f := h_a0_20_f
                have hf9_6 : vr 0 12 a0_21_f := h_a0_21_f
                have hf9_7 : ((0 : Int32) = 0 ∨ (0 : Int32) = 1) := (by decide)
                have hf9_8 : ((0 : Int32).toInt = 1 → (a0_18_f a0_17.toNatClampNeg).toInt + (a0_19_f a0_17.toNatClampNeg).toInt + (a0_20_f a0_17.toNatClampNeg).toInt + (a0_21_f a0_17.toNatClampNeg).toInt = (a0_18_f a0_17.toNatClampNeg).toInt + (a0_19_f a0_17.toNatClampNeg).toInt + (a0_20_f a0_17.toNatClampNeg).toInt + (a0_21_f a0_17.toNatClampNeg).toInt + 1) := by omega
                have hf9_9 : (KP 1 a0_20_f a0_20_f) := by first | exact KP.rf | assumption
                have hf9_10 : (KP 1 a0_21_f a0_21_f) := by first | exact KP.rf | assumption
                have hf9_11 : (KP 12 a0_32_f a0_32_f) := by first | exact KP.rf | assumption
                have hf9_12 : (KP 12 a0_33_f a0_33_f) := by first | exact KP.rf | assumption
                have hf9_13 : (PTOk a0_28_f (a0_20_f a0_17.toNatClampNeg).toInt) := by assumption
                have hf9_14 : (WOk a0_32_f a0_33_f 12 (a0_21_f a0_17.toNatClampNeg).toInt) := by assumption
                exact W.zret (v := 0) hx hb hr rfl (fun t ht hW => ⟨⟨0, 0, rfl, rfl, a0_7, a0_8, a0_9, a0_10, a0_11, za0_12_39, za0_13_40, a0_14, a0_15, a0_16, a0_36, a0_37, a0_18_f, a0_19_f, a0_20_f, a0_21_f, a0_22_f, a0_23_f, a0_24_f, a0_25_f, a0_26_f, a0_27_f, a0_28_f, a0_29_f, a0_30_f, a0_31_f, a0_32_f, a0_33_f, a0_34_f, a0_35_f, hf9_0, hf9_1, hf9_2, hf9_3, hf9_4, hf9_5, hf9_6, hf9_7, hf9_8, hf9_9, hf9_10, hf9_11, hf9_12, hf9_13, hf9_14, atB ht hP9, va_K.moved hW.alike hK9, hD9⟩, hS.F ht⟩) hS.2.2 dX9_lineHere_182
          · have c68_24 : r19.toInt = 0 := (cv_eq rfl (by decide)).mp c68_24
            refine lv_iconst (v := 0) hx hb dX9_lineHere_71 (by decide) ?_
            have qc0 : (0 : Int32).toInt = 0 := by decide
            refine W.widen (k := 0) (n := 0) (Nat.le_of_ble_eq_true rfl) (Nat.le_of_ble_eq_true rfl) ?_
            have hP9 := hP
            have hD9 := hD
            have hK9 := (rgK19_5d0c76c hK)
            have hf9_0 : (0 ≤ a0_7.toInt ∧ a0_7.toInt ≤ 1000) := by omega
            have hf9_1 : (0 ≤ a0_8.toInt ∧ a0_8.toInt ≤ 1000) := by omega
            have hf9_2 : ((-1) ≤ a0_37.toInt ∧ a0_37.toInt ≤ 23) := by omega
            have hf9_3 : vr 0 8 a0_18_f := h_a0_18_f
            have hf9_4 : vr 0 4 a0_19_f := h_a0_19_f
            have hf9_5 : vr 0 24 a0_20_f := h_a0_20_f
            have hf9_6 : vr 0 12 a0_21_f := h_a0_21_f
            have hf9_7 : ((0 : Int32) = 0 ∨ (0 : Int32) = 1) := (by decide)
            have hf9_8 : ((0 : Int32).toInt = 1 → (a0_18_f a0_17.toNatClampNeg).toInt + (a0_19_f a0_17.toNatClampNeg).toInt + (a0_20_f a0_17.toNatClampNeg).toInt + (a0_21_f a0_17.toNatClampNeg).toInt = (a0_18_f a0_17.toNatClampNeg).toInt + (a0_19_f a0_17.toNatClampNeg).toInt + (a0_20_f a0_17.toNatClampNeg).toInt + (a0_21_f a0_17.toNatClampNeg).toInt + 1) := by omega
            have hf9_9 : (KP 1 a0_20_f a0_20_f) := by first | exact KP.rf | assumption
            have hf9_10 : (KP 1 a0_21_f a0_21_f) := by first | exact KP.rf | assumption
            have hf9_11 : (KP 12 a0_32_f a0_32_f) := by first | exact KP.rf | assumption
            have hf9_12 : (KP 12 a0_33_f a0_33_f) := by first | exact KP.rf | assumption
            have hf9_13 : (PTOk a0_28_f (a0_20_f a0_17.toNatClampNeg).toInt) := by assumption
            have hf9_14 : (WOk a0_32_f a0_33_f 12 (a0_21_f a0_17.toNatClampNeg).toInt) := by assumption
            exact W.zret (v := 0) hx hb hr rfl (fun t ht hW => ⟨⟨0, 0, rfl, rfl, a0_7, a0_8, a0_9, a0_10, a0_11, za0_12_20, za0_13_21, a0_14, a0_15, a0_16, a0_36, a0_37, a0_18_f, a0_19_f, a0_20_f, a0_21_f, a0_22_f, a0_23_f, a0_24_f, a0_25_f, a0_26_f, a0_27_f, a0_28_f, a0_29_f, a0_30_f, a0_31_f, a0_32_f, a0_33_f, a0_34_f, a0_35_f, hf9_0, hf9_1, hf9_2, hf9_3, hf9_4, hf9_5, hf9_6, hf9_7, hf9_8, hf9_9, hf9_10, hf9_11, hf9_12, hf9_13, hf9_14, atB ht hP9, va_K.moved hW.alike hK9, hD9⟩, hS.F ht⟩) hS.2.2 dX9_lineHere_72
      · have c32_6 : ¬ (r5.toInt = 0) := mt (cv_eq rfl (by decide)).mpr c32_6
        refine lv_iconst (v := 2) hx hb dX9_lineHere_35 (by decide) ?_
        refine lv_goto (tgt := 53) hx hb dX9_lineHere_36 (by decide) ?_
        refine lv_istore_n (lv' := [(1, .int 2), (0, .ref a0)]) hx hb dX9_lineHere_53 rfl hl (by decide) rfl (fun ls hl => ?_)
        refine lv_aload_n hx hb dX9_lineHere_54 rfl (lv_at hl 1 rfl) ?_
        refine lv_iload_n hx hb dX9_lineHere_55 rfl (lv_at hl 0 rfl) ?_
        refine lv_if_lt (tgt := 63) hx hb dX9_lineHere_56 (by decide) (fun c56_109 => by exfalso; exact absurd c56_109 (by decide)) (fun c56_109 => ?_)
        refine lv_iconst (v := 1) hx hb dX9_lineHere_59 (by decide) ?_
        refine lv_goto (tgt := 64) hx hb dX9_lineHere_60 (by decide) ?_
        refine lv_iconst (v := 1) hx hb dX9_lineHere_64 (by decide) ?_
        have qc1 : (1 : Int32).toInt = 1 := by decide
        have hPc := (rgP20_580fa52 hP)
        have hKc := (rgK19_5d0c76c hK)
        have hDc := (rgD20_ec33658 hD)
        have hFc := freeW hDc hS hA
        refine va_calli (va_runV (As := [.int 1, .int 1]) (rest := []) ⟨hx, hb, hml, hown, hts⟩ (k_X9_must l dC dI g s.heap.size (a0) (1) (1) (a0_0) (a0_1) (a0_2) (a0_3) (a0_4) (a0_5) (a0_6) (a0_7) (a0_8) (a0_9) (a0_10) (a0_11) (a0_12) (a0_13) (a0_14) (a0_15) (a0_16) (a0_17) (a0_18) (a0_19) (a0_20) (a0_21) (a0_22) (a0_23) (a0_24) (a0_25) (a0_26) (a0_27) (a0_28) (a0_29) (a0_30) (a0_31) (a0_32) (a0_33) (a0_34) (a0_35) (a0_36) (a0_37) (a0_38) (a0_39) (a0_40) (a0_41) (a0_42) (a0_43) (by omega) (by omega) (by omega) (by omega) (by omega) (by omega) (by omega) (by omega)) (cwV 2 hts (gwV qw_472 qw_473 qw_474 qw_386 qw_471) rfl rfl rfl (by decide +kernel) ⟨Nat.le_of_ble_eq_true rfl, Nat.le_of_ble_eq_true rfl⟩) ⟨fun a U g9 mk q => ⟨q.1, q.2.1, q.2.2.1, va_K.moved (u := U) (U := U.calling g9 mk a) (Vm.Alike.refl U.vm) q.2.2.2.1, q.2.2.2.2.1, Ev.bl q.2.2.2.2.2⟩, va_recv hK hP (ci := 8) (q0 := 0) rfl rgL20_92b1330, fun U hU hW => ⟨rfl, by rw [hU], atB hU hPc, va_K.moved hW.alike hKc, hDc.weaken (fun _ _ _ _ => trivial), hE.go hS hFc hU hW⟩⟩ rfl rfl hl.1 rfl (lv_room (Nat.le_of_ble_eq_true rfl)) dX9_lineHere_65 ⟨Nat.le_of_ble_eq_true rfl, Nat.le_of_ble_eq_true rfl⟩) hS (fun q _ h => hFc q h) hFc (fun r111 u110 t H1 locs ht hvm h_u110 hB hz1 hk1 hS => ?_)
        obtain ⟨za0_12_112, za0_13_113, hF114, hF115, hP1, hK1, hD1⟩ := hB
        have hK1 := va_K.moved hvm.symm hK1
        have hJ9 := rgJ20_b6a011a hP hD hk1 hFc (atH ht hP1) hD1
        clear hP hD hPc hKc hDc hFc hP1 hD1 hk1 hz1
        obtain ⟨hP, hD⟩ := hJ9
        clear hK1
        generalize H1 = H at hP hS ⊢
        refine W.widen (k := 0) (n := 0) (Nat.le_of_ble_eq_true rfl) (Nat.le_of_ble_eq_true rfl) ?_
        have h_r111 := congrArg Int32.toInt h_u110
        have hz_r111 : r111 = 0 ∨ r111 = 1 := h_u110 ▸ hF114
        have b_r111 := z01 hz_r111
        refine lv_if_ne (tgt := 73) hx hb dX9_lineHere_68 (by decide) (fun c68_116 => ?_) (fun c68_116 => ?_)
        · have c68_116 : ¬ (r111.toInt = 0) := mt (cv_eq rfl (by decide)).mpr c68_116
          refine lv_iload_n hx hb dX9_lineHere_73 rfl (lv_at hl 0 rfl) ?_
          refine lv_if_ne (tgt := 99) hx hb dX9_lineHere_74 (by decide) (fun c74_117 => ?_) (fun c74_117 => by exfalso; exact absurd c74_117 (by decide))
          refine lv_iload_n hx hb dX9_lineHere_99 rfl (lv_at hl 0 rfl) ?_
          refine lv_iconst (v := 1) hx hb dX9_lineHere_100 (by decide) ?_
          refine lv_icmp_ne (tgt := 125) hx hb dX9_lineHere_101 (by decide) (fun c101_118 => ?_) (fun c101_118 => by exfalso; exact absurd c101_118 (by decide))
          refine lv_iload_n hx hb dX9_lineHere_125 rfl (lv_at hl 0 rfl) ?_
          refine lv_iconst (v := 2) hx hb dX9_lineHere_126 (by decide) ?_
          refine lv_icmp_ne (tgt := 152) hx hb dX9_lineHere_127 (by decide) (fun c127_119 => by exfalso; exact absurd c127_119 (by decide)) (fun c127_119 => ?_)
          refine lv_aload_n hx hb dX9_lineHere_130 rfl (lv_at hl 1 rfl) ?_
          refine va_get (D := (dC, dI)) (ci := 8) (v := .ref a0_20) (C := RX9) (T := TX9) (N := 44) hx hb hts inlX9 hown hK hP 0 rgL20_92b1330 rfl 20 (by decide) (hts (.fieldLink RX9 20 "ClosedUntilModel" "pieces" "[I") qw_439) (fun _ h9 => h9) rfl dX9_lineHere_131 ?_
          refine lv_aload_n hx hb dX9_lineHere_134 rfl (lv_at hl 1 rfl) ?_
          refine va_get (D := (dC, dI)) (ci := 8) (v := .int a0_17) (C := RX9) (T := TX9) (N := 44) hx hb hts inlX9 hown hK hP 0 rgL20_92b1330 rfl 17 (by decide) (hts (.fieldLink RX9 256 "ClosedUntilModel" "bench" "I") qw_435) (fun _ h9 => h9) rfl dX9_lineHere_135 ?_
          refine va_iald hx hb hK hP 4 3 rgL20_5864d77 rgT19_7765e6c (vinI (by omega) (by omega)) dX9_lineHere_138 ?_
          refine lv_topi (fun x120 e_x120 => ?_)
          have q_x120 := congrArg Int32.toInt e_x120
          have b_x120 : 0 ≤ x120.toInt ∧ x120.toInt ≤ 24 := vr_at (lo := 0) (hi := 24) (f := a0_20_f) h_a0_20_f e_x120
          refine lv_bipush (v := 24) hx hb dX9_lineHere_139 (by decide) ?_
          refine lv_icmp_ge (tgt := 148) hx hb dX9_lineHere_141 (by decide) (fun c141_121 => ?_) (fun c141_121 => ?_)
          · have c141_121 : 24 ≤ x120.toInt := (cv_le (by decide) rfl).mp c141_121
            refine lv_iconst (v := 0) hx hb dX9_lineHere_148 (by decide) ?_
            refine lv_goto (tgt := 171) hx hb dX9_lineHere_149 (by decide) ?_
            refine lv_istore_n (lv' := [(2, .int 0), (1, .int 2), (0, .ref a0)]) hx hb dX9_lineHere_171 rfl hl (by decide) rfl (fun ls hl => ?_)
            refine lv_aload_n hx hb dX9_lineHere_172 rfl (lv_at hl 2 rfl) ?_
            refine lv_iload_n hx hb dX9_lineHere_173 rfl (lv_at hl 0 rfl) ?_
            refine lv_iconst (v := 5) hx hb dX9_lineHere_174 (by decide) ?_
            have qc0 : (0 : Int32).toInt = 0 := by decide
            have qc5 : (5 : Int32).toInt = 5 := by decide
            have hPc := (rgP20_580fa52 hP)
            have hKc := (rgK19_5d0c76c hK)
            have hDc := (rgD20_ec33658 hD)
            have hFc := freeW hDc hS hA
            refine va_calli (va_runV (As := [.int 0, .int 5]) (rest := []) ⟨hx, hb, hml, hown, hts⟩ (k_X9_must l dC dI g H.size (a0) (0) (5) (a0_0) (a0_1) (a0_2) (a0_3) (a0_4) (a0_5) (a0_6) (a0_7) (a0_8) (a0_9) (a0_10) (a0_11) (za0_12_112) (za0_13_113) (a0_14) (a0_15) (a0_16) (a0_17) (a0_18) (a0_19) (a0_20) (a0_21) (a0_22) (a0_23) (a0_24) (a0_25) (a0_26) (a0_27) (a0_28) (a0_29) (a0_30) (a0_31) (a0_32) (a0_33) (a0_34) (a0_35) (a0_36) (a0_37) (a0_38) (a0_39) (a0_40) (a0_41) (a0_42) (a0_43) (by omega) (by omega) (by omega) (by omega) (by omega) (by omega) (by omega) (by omega)) (cwV 2 hts (gwV qw_472 qw_473 qw_474 qw_386 qw_471) rfl rfl rfl (by decide +kernel) ⟨Nat.le_of_ble_eq_true rfl, Nat.le_of_ble_eq_true rfl⟩) ⟨fun a U g9 mk q => ⟨q.1, q.2.1, q.2.2.1, va_K.moved (u := U) (U := U.calling g9 mk a) (Vm.Alike.refl U.vm) q.2.2.2.1, q.2.2.2.2.1, Ev.bl q.2.2.2.2.2⟩, va_recv hK hP (ci := 8) (q0 := 0) rfl rgL20_92b1330, fun U hU hW => ⟨rfl, by rw [hU], atB hU hPc, va_K.moved hW.alike hKc, hDc.weaken (fun _ _ _ _ => trivial), hE.go hS hFc hU hW⟩⟩ rfl rfl hl.1 rfl (lv_room (Nat.le_of_ble_eq_true rfl)) dX9_lineHere_175 ⟨Nat.le_of_ble_eq_true rfl, Nat.le_of_ble_eq_true rfl⟩) hS (fun q _ h => hFc q h) hFc (fun r123 u122 t H1 locs ht hvm h_u122 hB hz1 hk1 hS => ?_)
            obtain ⟨za0_12_124, za0_13_125, hF126, hF127, hP1, hK1, hD1⟩ := hB
            have hK1 := va_K.moved hvm.symm hK1
            have hJ9 := rgJ20_b6a011a hP hD hk1 hFc (atH ht hP1) hD1
            clear hP hD hPc hKc hDc hFc hP1 hD1 hk1 hz1
            obtain ⟨hP, hD⟩ := hJ9
            clear hK1
            generalize H1 = H at hP hS ⊢
            refine W.widen (k := 0) (n := 0) (Nat.le_of_ble_eq_true rfl) (Nat.le_of_ble_eq_true rfl) ?_
            have h_r123 := congrArg Int32.toInt h_u122
            have hz_r123 : r123 = 0 ∨ r123 = 1 := h_u122 ▸ hF126
            have b_r123 := z01 hz_r123
            refine cst (v := 0) (Int32.toInt_inj.mp (by rw [show (0 : Int32).toInt = 0 by decide]; omega)) ?_
            refine lv_if_ne (tgt := 183) hx hb dX9_lineHere_178 (by decide) (fun c178_128 => by exfalso; exact absurd c178_128 (by decide)) (fun c178_128 => ?_)
            refine lv_iconst (v := 0) hx hb dX9_lineHere_181 (by decide) ?_
            have qc0 : (0 : Int32).toInt = 0 := by decide
            refine W.widen (k := 0) (n := 0) (Nat.le_of_ble_eq_true rfl) (Nat.le_of_ble_eq_true rfl) ?_
            have hP9 := hP
            have hD9 := hD
            have hK9 := (rgK19_5d0c76c hK)
            have hf9_0 : (0 ≤ a0_7.toInt ∧ a0_7.toInt ≤ 1000) := by omega
            have hf9_1 : (0 ≤ a0_8.toInt ∧ a0_8.toInt ≤ 1000) := by omega
            have hf9_2 : ((-1) ≤ a0_37.toInt ∧ a0_37.toInt ≤ 23) := by omega
            have hf9_3 : vr 0 8 a0_18_f := h_a0_18_f
            have hf9_4 : vr 0 4 a0_19_f := h_a0_19_f
            have hf9_5 : vr 0 24 a0_20_f := h_a0_20_f
            have hf9_6 : vr 0 12 a0_21_f := h_a0_21_f
            have hf9_7 : ((0 : Int32) = 0 ∨ (0 : Int32) = 1) := (by decide)
            have hf9_8 : ((0 : Int32).toInt = 1 → (a0_18_f a0_17.toNatClampNeg).toInt + (a0_19_f a0_17.toNatClampNeg).toInt + (a0_20_f a0_17.toNatClampNeg).toInt + (a0_21_f a0_17.toNatClampNeg).toInt = (a0_18_f a0_17.toNatClampNeg).toInt + (a0_19_f a0_17.toNatClampNeg).toInt + (a0_20_f a0_17.toNatClampNeg).toInt + (a0_21_f a0_17.toNatClampNeg).toInt + 1) := by omega
            have hf9_9 : (KP 1 a0_20_f a0_20_f) := by first | exact KP.rf | assumption
            have hf9_10 : (KP 1 a0_21_f a0_21_f) := by first | exact KP.rf | assumption
            have hf9_11 : (KP 12 a0_32_f a0_32_f) := by first | exact KP.rf | assumption
            have hf9_12 : (KP 12 a0_33_f a0_33_f) := by first | exact KP.rf | assumption
            have hf9_13 : (PTOk a0_28_f (a0_20_f a0_17.toNatClampNeg).toInt) := by assumption
            have hf9_14 : (WOk a0_32_f a0_33_f 12 (a0_21_f a0_17.toNatClampNeg).toInt) := by assumption
            exact W.zret (v := 0) hx hb hr rfl (fun t ht hW => ⟨⟨0, 0, rfl, rfl, a0_7, a0_8, a0_9, a0_10, a0_11, za0_12_124, za0_13_125, a0_14, a0_15, a0_16, a0_36, a0_37, a0_18_f, a0_19_f, a0_20_f, a0_21_f, a0_22_f, a0_23_f, a0_24_f, a0_25_f, a0_26_f, a0_27_f, a0_28_f, a0_29_f, a0_30_f, a0_31_f, a0_32_f, a0_33_f, a0_34_f, a0_35_f, hf9_0, hf9_1, hf9_2, hf9_3, hf9_4, hf9_5, hf9_6, hf9_7, hf9_8, hf9_9, hf9_10, hf9_11, hf9_12, hf9_13, hf9_14, atB ht hP9, va_K.moved hW.alike hK9, hD9⟩, hS.F ht⟩) hS.2.2 dX9_lineHere_182
          · have c141_121 : ¬ (24 ≤ x120.toInt) := mt (cv_le (by decide) rfl).mpr c141_121
            refine lv_iconst (v := 1) hx hb dX9_lineHere_144 (by decide) ?_
            refine lv_goto (tgt := 171) hx hb dX9_lineHere_145 (by decide) ?_
            refine lv_istore_n (lv' := [(2, .int 1), (1, .int 2), (0, .ref a0)]) hx hb dX9_lineHere_171 rfl hl (by decide) rfl (fun ls hl => ?_)
            refine lv_aload_n hx hb dX9_lineHere_172 rfl (lv_at hl 2 rfl) ?_
            refine lv_iload_n hx hb dX9_lineHere_173 rfl (lv_at hl 0 rfl) ?_
            refine lv_iconst (v := 5) hx hb dX9_lineHere_174 (by decide) ?_
            have qc1 : (1 : Int32).toInt = 1 := by decide
            have qc5 : (5 : Int32).toInt = 5 := by decide
            have hPc := (rgP20_580fa52 hP)
            have hKc := (rgK19_5d0c76c hK)
            have hDc := (rgD20_ec33658 hD)
            have hFc := freeW hDc hS hA
            refine va_calli (va_runV (As := [.int 1, .int 5]) (rest := []) ⟨hx, hb, hml, hown, hts⟩ (k_X9_must l dC dI g H.size (a0) (1) (5) (a0_0) (a0_1) (a0_2) (a0_3) (a0_4) (a0_5) (a0_6) (a0_7) (a0_8) (a0_9) (a0_10) (a0_11) (za0_12_112) (za0_13_113) (a0_14) (a0_15) (a0_16) (a0_17) (a0_18) (a0_19) (a0_20) (a0_21) (a0_22) (a0_23) (a0_24) (a0_25) (a0_26) (a0_27) (a0_28) (a0_29) (a0_30) (a0_31) (a0_32) (a0_33) (a0_34) (a0_35) (a0_36) (a0_37) (a0_38) (a0_39) (a0_40) (a0_41) (a0_42) (a0_43) (by omega) (by omega) (by omega) (by omega) (by omega) (by omega) (by omega) (by omega)) (cwV 2 hts (gwV qw_472 qw_473 qw_474 qw_386 qw_471) rfl rfl rfl (by decide +kernel) ⟨Nat.le_of_ble_eq_true rfl, Nat.le_of_ble_eq_true rfl⟩) ⟨fun a U g9 mk q => ⟨q.1, q.2.1, q.2.2.1, va_K.moved (u := U) (U := U.calling g9 mk a) (Vm.Alike.refl U.vm) q.2.2.2.1, q.2.2.2.2.1, Ev.bl q.2.2.2.2.2⟩, va_recv hK hP (ci := 8) (q0 := 0) rfl rgL20_92b1330, fun U hU hW => ⟨rfl, by rw [hU], atB hU hPc, va_K.moved hW.alike hKc, hDc.weaken (fun _ _ _ _ => trivial), hE.go hS hFc hU hW⟩⟩ rfl rfl hl.1 rfl (lv_room (Nat.le_of_ble_eq_true rfl)) dX9_lineHere_175 ⟨Nat.le_of_ble_eq_true rfl, Nat.le_of_ble_eq_true rfl⟩) hS (fun q _ h => hFc q h) hFc (fun r130 u129 t H1 locs ht hvm h_u129 hB hz1 hk1 hS => ?_)
            obtain ⟨za0_12_131, za0_13_132, hF133, hF134, hP1, hK1, hD1⟩ := hB
            have hK1 := va_K.moved hvm.symm hK1
            have hJ9 := rgJ20_b6a011a hP hD hk1 hFc (atH ht hP1) hD1
            clear hP hD hPc hKc hDc hFc hP1 hD1 hk1 hz1
            obtain ⟨hP, hD⟩ := hJ9
            clear hK1
            generalize H1 = H at hP hS ⊢
            refine W.widen (k := 0) (n := 0) (Nat.le_of_ble_eq_true rfl) (Nat.le_of_ble_eq_true rfl) ?_
            have h_r130 := congrArg Int32.toInt h_u129
            have hz_r130 : r130 = 0 ∨ r130 = 1 := h_u129 ▸ hF133
            have b_r130 := z01 hz_r130
            refine lv_if_ne (tgt := 183) hx hb dX9_lineHere_178 (by decide) (fun c178_135 => ?_) (fun c178_135 => ?_)
            · have c178_135 : ¬ (r130.toInt = 0) := mt (cv_eq rfl (by decide)).mpr c178_135
              refine lv_aload_n hx hb dX9_lineHere_183 rfl (lv_at hl 2 rfl) ?_
              have hPc := (rgP20_5ec38fa hP)
              have hKc := (rgK19_4f62bf3 hK)
              have hDc := (rgD20_1e423f8 hD)
              have hFc := freeW hDc hS hA
              refine va_callv (va_runV (As := []) (rest := []) ⟨hx, hb, hml, hown, hts⟩ (k_X9_steps l dC dI g H.size (a0) (a0_0) (a0_1) (a0_2) (a0_3) (a0_4) (a0_5) (a0_6) (a0_7) (a0_8) (a0_9) (a0_10) (a0_11) (za0_12_131) (za0_13_132) (a0_14) (a0_15) (a0_16) (a0_17) (a0_18) (a0_19) (a0_20) (a0_21) (a0_22) (a0_23) (a0_24) (a0_25) (a0_26) (a0_27) (a0_28) (a0_29) (a0_30) (a0_31) (a0_32) (a0_33) (a0_34) (a0_35) (a0_36) (a0_37) (a0_38) (a0_39) (a0_40) (a0_41) (a0_42) (a0_43) (a0_4_c) (a0_4_f) (by omega) (by omega) (by omega) (by omega) (by omega) (by omega) (by omega)) (cwV 0 hts (gwV qw_468 qw_469 qw_470 qw_386 qw_467) rfl rfl rfl (by decide +kernel) ⟨Nat.le_of_ble_eq_true rfl, Nat.le_of_ble_eq_true rfl⟩) ⟨fun a U g9 mk q => ⟨q.1, q.2.1, q.2.2.1, va_K.moved (u := U) (U := U.calling g9 mk a) (Vm.Alike.refl U.vm) q.2.2.2.1, q.2.2.2.2.1, Ev.bl q.2.2.2.2.2⟩, va_recv hK hP (ci := 8) (q0 := 0) rfl rgL20_92b1330, fun U hU hW => ⟨rfl, by rw [hU], atB hU hPc, va_K.moved hW.alike hKc, hDc.weaken (fun _ _ _ _ => trivial), hE.go hS hFc hU hW⟩⟩ rfl rfl hl.1 rfl (lv_room (Nat.le_of_ble_eq_true rfl)) dX9_lineHere_184 ⟨Nat.le_of_ble_eq_true rfl, Nat.le_of_ble_eq_true rfl⟩) hS (fun q _ h => hFc q h) hFc (fun u136 t H1 locs ht hvm h_u136 hB hz1 hk1 hS => ?_)
              obtain ⟨za0_7_138, za0_8_139, za0_9_140, za0_10_141, za0_11_142, hF143, hF144, hP1, hK1, hD1⟩ := hB
              have hK1 := va_K.moved hvm.symm hK1
              have hJ9 := rgJ20_0050ee0 hP hD hk1 hFc (atH ht hP1) hD1
              clear hP hD hPc hKc hDc hFc hP1 hD1 hk1 hz1
              obtain ⟨hP, hD⟩ := hJ9
              clear hK1
              generalize H1 = H at hP hS ⊢
              refine W.widen (k := 0) (n := 0) (Nat.le_of_ble_eq_true rfl) (Nat.le_of_ble_eq_true rfl) ?_
              refine lv_iload_n hx hb dX9_lineHere_187 rfl (lv_at hl 1 rfl) ?_
              refine lv_if_ne (tgt := 198) hx hb dX9_lineHere_188 (by decide) (fun c188_145 => ?_) (fun c188_145 => by exfalso; exact absurd c188_145 (by decide))
              refine lv_iload_n hx hb dX9_lineHere_198 rfl (lv_at hl 1 rfl) ?_
              refine lv_iconst (v := 1) hx hb dX9_lineHere_199 (by decide) ?_
              refine lv_icmp_ne (tgt := 210) hx hb dX9_lineHere_200 (by decide) (fun c200_146 => ?_) (fun c200_146 => by exfalso; exact absurd c200_146 (by decide))
              refine lv_iload_n hx hb dX9_lineHere_210 rfl (lv_at hl 1 rfl) ?_
              refine lv_iconst (v := 2) hx hb dX9_lineHere_211 (by decide) ?_
              refine lv_icmp_ne (tgt := 222) hx hb dX9_lineHere_212 (by decide) (fun c212_147 => by exfalso; exact absurd c212_147 (by decide)) (fun c212_147 => ?_)
              refine lv_aload_n hx hb dX9_lineHere_215 rfl (lv_at hl 2 rfl) ?_
              have hPc := (rgP20_8d46461 hP)
              have hKc := (rgK19_f0e5709 hK)
              have hDc := (rgD20_5c7d342 hD)
              have hFc := freeW hDc hS hA
              refine va_calli (va_runV (As := []) (rest := []) ⟨hx, hb, hml, hown, hts⟩ (k_X9_pieceLine l dC dI g H.size (a0) (a0_0) (a0_1) (a0_2) (a0_3) (a0_4) (a0_5) (a0_6) (za0_7_138) (za0_8_139) (za0_9_140) (za0_10_141) (za0_11_142) (za0_12_131) (za0_13_132) (a0_14) (a0_15) (a0_16) (a0_17) (a0_18) (a0_19) (a0_20) (a0_21) (a0_22) (a0_23) (a0_24) (a0_25) (a0_26) (a0_27) (a0_28) (a0_29) (a0_30) (a0_31) (a0_32) (a0_33) (a0_34) (a0_35) (a0_36) (a0_37) (a0_38) (a0_39) (a0_40) (a0_41) (a0_42) (a0_43) (a0_4_c) (a0_4_f) (a0_18_c) (a0_18_f) (a0_19_c) (a0_19_f) (a0_20_c) (a0_20_f) (a0_22_c) (a0_22_f) (a0_25_c) (a0_25_f) (a0_27_c) (a0_27_f) (a0_28_c) (a0_28_f) (a0_29_c) (a0_29_f) (a0_30_c) (a0_30_f) (a0_31_c) (a0_31_f) (by omega) (by omega) (by omega) (by omega) (by omega) (by omega) (by omega) h_a0_18_f h_a0_19_f h_a0_20_f (by omega) (by omega) (by assumption)) (cwV 0 hts (gwV qw_581 qw_582 qw_583 qw_386 qw_580) rfl rfl rfl (by decide +kernel) ⟨Nat.le_of_ble_eq_true rfl, Nat.le_of_ble_eq_true rfl⟩) ⟨fun a U g9 mk q => ⟨q.1, q.2.1, q.2.2.1, va_K.moved (u := U) (U := U.calling g9 mk a) (Vm.Alike.refl U.vm) q.2.2.2.1, q.2.2.2.2.1, Ev.bl q.2.2.2.2.2⟩, va_recv hK hP (ci := 8) (q0 := 0) rfl rgL20_92b1330, fun U hU hW => ⟨rfl, by rw [hU], atB hU hPc, va_K.moved hW.alike hKc, hDc.weaken (fun _ _ _ _ => trivial), hE.go hS hFc hU hW⟩⟩ rfl rfl hl.1 rfl (lv_room (Nat.le_of_ble_eq_true rfl)) dX9_lineHere_216 ⟨Nat.le_of_ble_eq_true rfl, Nat.le_of_ble_eq_true rfl⟩) hS (fun q _ h => hFc q h) hFc (fun r149 u148 t H1 locs ht hvm h_u148 hB hz1 hk1 hS => ?_)
              obtain ⟨za0_7_150, za0_8_151, za0_9_152, za0_10_153, za0_11_154, za0_12_155, za0_13_156, za0_14_157, za0_15_158, za0_16_159, za0_36_160, za0_37_161, za0_20_f_162, za0_27_f_163, za0_28_f_164, za0_29_f_165, za0_30_f_166, za0_31_f_167, hF168, hF169, hF170, hF171, hF172, hF173, hF174, hF175, hP1, hK1, hD1⟩ := hB
              have hK1 := va_K.moved hvm.symm hK1
              have hJ9 := rgJ20_d31fbb9 hP hD hk1 hFc (atH ht hP1) hD1
              clear hP hD hPc hKc hDc hFc hP1 hD1 hk1 hz1
              obtain ⟨hP, hD⟩ := hJ9
              clear hK1
              generalize H1 = H at hP hS ⊢
              refine W.widen (k := 0) (n := 0) (Nat.le_of_ble_eq_true rfl) (Nat.le_of_ble_eq_true rfl) ?_
              have h_r149 := congrArg Int32.toInt h_u148
              have hz_r149 : r149 = 0 ∨ r149 = 1 := h_u148 ▸ hF172
              have b_r149 := z01 hz_r149
              refine lv_goto (tgt := 226) hx hb dX9_lineHere_219 (by decide) ?_
              refine lv_istore_n (lv' := [(3, .int r149), (2, .int 1), (1, .int 2), (0, .ref a0)]) hx hb dX9_lineHere_226 rfl hl (by decide) rfl (fun ls hl => ?_)
              refine lv_iload_n hx hb dX9_lineHere_227 rfl (lv_at hl 0 rfl) ?_
              refine lv_if_eq (tgt := 252) hx hb dX9_lineHere_228 (by decide) (fun c228_176 => ?_) (fun c228_176 => ?_)
              · have c228_176 : r149.toInt = 0 := (cv_eq rfl (by decide)).mp c228_176
                refine lv_iconst (v := 0) hx hb dX9_lineHere_252 (by decide) ?_
                have qc0 : (0 : Int32).toInt = 0 := by decide
                refine W.widen (k := 0) (n := 0) (Nat.le_of_ble_eq_true rfl) (Nat.le_of_ble_eq_true rfl) ?_
                have hP9 := hP
                have hD9 := hD
                have hK9 := (rgK19_5d0c76c hK)
                have hf9_0 : (0 ≤ za0_7_150.toInt ∧ za0_7_150.toInt ≤ 1000) := by omega
                have hf9_1 : (0 ≤ za0_8_151.toInt ∧ za0_8_151.toInt ≤ 1000) := by omega
                have hf9_2 : ((-1) ≤ za0_37_161.toInt ∧ za0_37_161.toInt ≤ 23) := by omega
                have hf9_3 : vr 0 8 a0_18_f := h_a0_18_f
                have hf9_4 : vr 0 4 a0_19_f := h_a0_19_f
                have hf9_5 : vr 0 24 za0_20_f_162 := hF171
                have hf9_6 : vr 0 12 a0_21_f := h_a0_21_f
                have hf9_7 : ((0 : Int32) = 0 ∨ (0 : Int32) = 1) := (by decide)
                have hf9_8 : ((0 : Int32).toInt = 1 → (a0_18_f a0_17.toNatClampNeg).toInt + (a0_19_f a0_17.toNatClampNeg).toInt + (za0_20_f_162 a0_17.toNatClampNeg).toInt + (a0_21_f a0_17.toNatClampNeg).toInt = (a0_18_f a0_17.toNatClampNeg).toInt + (a0_19_f a0_17.toNatClampNeg).toInt + (a0_20_f a0_17.toNatClampNeg).toInt + (a0_21_f a0_17.toNatClampNeg).toInt + 1) := by omega
                have hf9_9 : (KP 1 a0_20_f za0_20_f_162) := by first | exact KP.rf | assumption
                have hf9_10 : (KP 1 a0_21_f a0_21_f) := by first | exact KP.rf | assumption
                have hf9_11 : (KP 12 a0_32_f a0_32_f) := by first | exact KP.rf | assumption
                have hf9_12 : (KP 12 a0_33_f a0_33_f) := by first | exact KP.rf | assumption
                have hf9_13 : (PTOk za0_28_f_164 (za0_20_f_162 a0_17.toNatClampNeg).toInt) := by assumption
                have hf9_14 : (WOk a0_32_f a0_33_f 12 (a0_21_f a0_17.toNatClampNeg).toInt) := by assumption
                exact W.zret (v := 0) hx hb hr rfl (fun t ht hW => ⟨⟨0, 0, rfl, rfl, za0_7_150, za0_8_151, za0_9_152, za0_10_153, za0_11_154, za0_12_155, za0_13_156, za0_14_157, za0_15_158, za0_16_159, za0_36_160, za0_37_161, a0_18_f, a0_19_f, za0_20_f_162, a0_21_f, a0_22_f, a0_23_f, a0_24_f, a0_25_f, a0_26_f, za0_27_f_163, za0_28_f_164, za0_29_f_165, za0_30_f_166, za0_31_f_167, a0_32_f, a0_33_f, a0_34_f, a0_35_f, hf9_0, hf9_1, hf9_2, hf9_3, hf9_4, hf9_5, hf9_6, hf9_7, hf9_8, hf9_9, hf9_10, hf9_11, hf9_12, hf9_13, hf9_14, atB ht hP9, va_K.moved hW.alike hK9, hD9⟩, hS.F ht⟩) hS.2.2 dX9_lineHere_253
              · have c228_176 : ¬ (r149.toInt = 0) := mt (cv_eq rfl (by decide)).mpr c228_176
                refine lv_aload_n hx hb dX9_lineHere_231 rfl (lv_at hl 3 rfl) ?_
                refine lv_aload_n hx hb dX9_lineHere_232 rfl (lv_at hl 3 rfl) ?_
                refine va_get (D := (dC, dI)) (ci := 8) (v := .int za0_9_152) (C := RX9) (T := TX9) (N := 44) hx hb hts inlX9 hown hK hP 0 rgL20_92b1330 rfl 9 (by decide) (hts (.fieldLink RX9 160 "ClosedUntilModel" "token" "I") qw_421) (fun _ h9 => h9) rfl dX9_lineHere_233 ?_
                refine lv_iconst (v := 3) hx hb dX9_lineHere_236 (by decide) ?_
                refine lv_icmp_ne (tgt := 244) hx hb dX9_lineHere_237 (by decide) (fun c237_177 => ?_) (fun c237_177 => ?_)
                · have c237_177 : ¬ (za0_9_152.toInt = 3) := mt (cv_eq rfl (by decide)).mpr c237_177
                  refine lv_iconst (v := 0) hx hb dX9_lineHere_244 (by decide) ?_
                  refine lv_iconst (v := 1) hx hb dX9_lineHere_245 (by decide) ?_
                  have qc0 : (0 : Int32).toInt = 0 := by decide
                  have qc1 : (1 : Int32).toInt = 1 := by decide
                  have hPc := (rgP20_580fa52 hP)
                  have hKc := (rgK19_5d0c76c hK)
                  have hDc := (rgD20_ec33658 hD)
                  have hFc := freeW hDc hS hA
                  refine va_calli (va_runV (As := [.int 0, .int 1]) (rest := []) ⟨hx, hb, hml, hown, hts⟩ (k_X9_must l dC dI g H.size (a0) (0) (1) (a0_0) (a0_1) (a0_2) (a0_3) (a0_4) (a0_5) (a0_6) (za0_7_150) (za0_8_151) (za0_9_152) (za0_10_153) (za0_11_154) (za0_12_155) (za0_13_156) (za0_14_157) (za0_15_158) (za0_16_159) (a0_17) (a0_18) (a0_19) (a0_20) (a0_21) (a0_22) (a0_23) (a0_24) (a0_25) (a0_26) (a0_27) (a0_28) (a0_29) (a0_30) (a0_31) (a0_32) (a0_33) (a0_34) (a0_35) (za0_36_160) (za0_37_161) (a0_38) (a0_39) (a0_40) (a0_41) (a0_42) (a0_43) (by omega) (by omega) (by omega) (by omega) (by omega) (by omega) (by omega) (by omega)) (cwV 2 hts (gwV qw_472 qw_473 qw_474 qw_386 qw_471) rfl rfl rfl (by decide +kernel) ⟨Nat.le_of_ble_eq_true rfl, Nat.le_of_ble_eq_true rfl⟩) ⟨fun a U g9 mk q => ⟨q.1, q.2.1, q.2.2.1, va_K.moved (u := U) (U := U.calling g9 mk a) (Vm.Alike.refl U.vm) q.2.2.2.1, q.2.2.2.2.1, Ev.bl q.2.2.2.2.2⟩, va_recv hK hP (ci := 8) (q0 := 0) rfl rgL20_92b1330, fun U hU hW => ⟨rfl, by rw [hU], atB hU hPc, va_K.moved hW.alike hKc, hDc.weaken (fun _ _ _ _ => trivial), hE.go hS hFc hU hW⟩⟩ rfl rfl hl.1 rfl (lv_room (Nat.le_of_ble_eq_true rfl)) dX9_lineHere_246 ⟨Nat.le_of_ble_eq_true rfl, Nat.le_of_ble_eq_true rfl⟩) hS (fun q _ h => hFc q h) hFc (fun r179 u178 t H1 locs ht hvm h_u178 hB hz1 hk1 hS => ?_)
                  obtain ⟨za0_12_180, za0_13_181, hF182, hF183, hP1, hK1, hD1⟩ := hB
                  have hK1 := va_K.moved hvm.symm hK1
                  have hJ9 := rgJ20_b6a011a hP hD hk1 hFc (atH ht hP1) hD1
                  clear hP hD hPc hKc hDc hFc hP1 hD1 hk1 hz1
                  obtain ⟨hP, hD⟩ := hJ9
                  clear hK1
                  generalize H1 = H at hP hS ⊢
                  refine W.widen (k := 0) (n := 0) (Nat.le_of_ble_eq_true rfl) (Nat.le_of_ble_eq_true rfl) ?_
                  have h_r179 := congrArg Int32.toInt h_u178
                  have hz_r179 : r179 = 0 ∨ r179 = 1 := h_u178 ▸ hF182
                  have b_r179 := z01 hz_r179
                  refine cst (v := 0) (Int32.toInt_inj.mp (by rw [show (0 : Int32).toInt = 0 by decide]; omega)) ?_
                  refine lv_if_ne (tgt := 254) hx hb dX9_lineHere_249 (by decide) (fun c249_184 => by exfalso; exact absurd c249_184 (by decide)) (fun c249_184 => ?_)
                  refine lv_iconst (v := 0) hx hb dX9_lineHere_252 (by decide) ?_
                  have qc0 : (0 : Int32).toInt = 0 := by decide
                  refine W.widen (k := 0) (n := 0) (Nat.le_of_ble_eq_true rfl) (Nat.le_of_ble_eq_true rfl) ?_
                  have hP9 := hP
                  have hD9 := hD
                  have hK9 := (rgK19_5d0c76c hK)
                  have hf9_0 : (0 ≤ za0_7_150.toInt ∧ za0_7_150.toInt ≤ 1000) := by omega
                  have hf9_1 : (0 ≤ za0_8_151.toInt ∧ za0_8_151.toInt ≤ 1000) := by omega
                  have hf9_2 : ((-1) ≤ za0_37_161.toInt ∧ za0_37_161.toInt ≤ 23) := by omega
                  have hf9_3 : vr 0 8 a0_18_f := h_a0_18_f
                  have hf9_4 : vr 0 4 a0_19_f := h_a0_19_f
                  have hf9_5 : vr 0 24 za0_20_f_162 := hF171
                  have hf9_6 : vr 0 12 a0_21_f := h_a0_21_f
                  have hf9_7 : ((0 : Int32) = 0 ∨ (0 : Int32) = 1) := (by decide)
                  have hf9_8 : ((0 : Int32).toInt = 1 → (a0_18_f a0_17.toNatClampNeg).toInt + (a0_19_f a0_17.toNatClampNeg).toInt + (za0_20_f_162 a0_17.toNatClampNeg).toInt + (a0_21_f a0_17.toNatClampNeg).toInt = (a0_18_f a0_17.toNatClampNeg).toInt + (a0_19_f a0_17.toNatClampNeg).toInt + (a0_20_f a0_17.toNatClampNeg).toInt + (a0_21_f a0_17.toNatClampNeg).toInt + 1) := by omega
                  have hf9_9 : (KP 1 a0_20_f za0_20_f_162) := by first | exact KP.rf | assumption
                  have hf9_10 : (KP 1 a0_21_f a0_21_f) := by first | exact KP.rf | assumption
                  have hf9_11 : (KP 12 a0_32_f a0_32_f) := by first | exact KP.rf | assumption
                  have hf9_12 : (KP 12 a0_33_f a0_33_f) := by first | exact KP.rf | assumption
                  have hf9_13 : (PTOk za0_28_f_164 (za0_20_f_162 a0_17.toNatClampNeg).toInt) := by assumption
                  have hf9_14 : (WOk a0_32_f a0_33_f 12 (a0_21_f a0_17.toNatClampNeg).toInt) := by assumption
                  exact W.zret (v := 0) hx hb hr rfl (fun t ht hW => ⟨⟨0, 0, rfl, rfl, za0_7_150, za0_8_151, za0_9_152, za0_10_153, za0_11_154, za0_12_180, za0_13_181, za0_14_157, za0_15_158, za0_16_159, za0_36_160, za0_37_161, a0_18_f, a0_19_f, za0_20_f_162, a0_21_f, a0_22_f, a0_23_f, a0_24_f, a0_25_f, a0_26_f, za0_27_f_163, za0_28_f_164, za0_29_f_165, za0_30_f_166, za0_31_f_167, a0_32_f, a0_33_f, a0_34_f, a0_35_f, hf9_0, hf9_1, hf9_2, hf9_3, hf9_4, hf9_5, hf9_6, hf9_7, hf9_8, hf9_9, hf9_10, hf9_11, hf9_12, hf9_13, hf9_14, atB ht hP9, va_K.moved hW.alike hK9, hD9⟩, hS.F ht⟩) hS.2.2 dX9_lineHere_253
                · have c237_177 : za0_9_152.toInt = 3 := (cv_eq rfl (by decide)).mp c237_177
                  refine lv_iconst (v := 1) hx hb dX9_lineHere_240 (by decide) ?_
                  refine lv_goto (tgt := 245) hx hb dX9_lineHere_241 (by decide) ?_
                  refine lv_iconst (v := 1) hx hb dX9_lineHere_245 (by decide) ?_
                  have qc1 : (1 : Int32).toInt = 1 := by decide
                  have hPc := (rgP20_580fa52 hP)
                  have hKc := (rgK19_5d0c76c hK)
                  have hDc := (rgD20_ec33658 hD)
                  have hFc := freeW hDc hS hA
                  refine va_calli (va_runV (As := [.int 1, .int 1]) (rest := []) ⟨hx, hb, hml, hown, hts⟩ (k_X9_must l dC dI g H.size (a0) (1) (1) (a0_0) (a0_1) (a0_2) (a0_3) (a0_4) (a0_5) (a0_6) (za0_7_150) (za0_8_151) (za0_9_152) (za0_10_153) (za0_11_154) (za0_12_155) (za0_13_156) (za0_14_157) (za0_15_158) (za0_16_159) (a0_17) (a0_18) (a0_19) (a0_20) (a0_21) (a0_22) (a0_23) (a0_24) (a0_25) (a0_26) (a0_27) (a0_28) (a0_29) (a0_30) (a0_31) (a0_32) (a0_33) (a0_34) (a0_35) (za0_36_160) (za0_37_161) (a0_38) (a0_39) (a0_40) (a0_41) (a0_42) (a0_43) (by omega) (by omega) (by omega) (by omega) (by omega) (by omega) (by omega) (by omega)) (cwV 2 hts (gwV qw_472 qw_473 qw_474 qw_386 qw_471) rfl rfl rfl (by decide +kernel) ⟨Nat.le_of_ble_eq_true rfl, Nat.le_of_ble_eq_true rfl⟩) ⟨fun a U g9 mk q => ⟨q.1, q.2.1, q.2.2.1, va_K.moved (u := U) (U := U.calling g9 mk a) (Vm.Alike.refl U.vm) q.2.2.2.1, q.2.2.2.2.1, Ev.bl q.2.2.2.2.2⟩, va_recv hK hP (ci := 8) (q0 := 0) rfl rgL20_92b1330, fun U hU hW => ⟨rfl, by rw [hU], atB hU hPc, va_K.moved hW.alike hKc, hDc.weaken (fun _ _ _ _ => trivial), hE.go hS hFc hU hW⟩⟩ rfl rfl hl.1 rfl (lv_room (Nat.le_of_ble_eq_true rfl)) dX9_lineHere_246 ⟨Nat.le_of_ble_eq_true rfl, Nat.le_of_ble_eq_true rfl⟩) hS (fun q _ h => hFc q h) hFc (fun r186 u185 t H1 locs ht hvm h_u185 hB hz1 hk1 hS => ?_)
                  obtain ⟨za0_12_187, za0_13_188, hF189, hF190, hP1, hK1, hD1⟩ := hB
                  have hK1 := va_K.moved hvm.symm hK1
                  have hJ9 := rgJ20_b6a011a hP hD hk1 hFc (atH ht hP1) hD1
                  clear hP hD hPc hKc hDc hFc hP1 hD1 hk1 hz1
                  obtain ⟨hP, hD⟩ := hJ9
                  clear hK1
                  generalize H1 = H at hP hS ⊢
                  refine W.widen (k := 0) (n := 0) (Nat.le_of_ble_eq_true rfl) (Nat.le_of_ble_eq_true rfl) ?_
                  have h_r186 := congrArg Int32.toInt h_u185
                  have hz_r186 : r186 = 0 ∨ r186 = 1 := h_u185 ▸ hF189
                  have b_r186 := z01 hz_r186
                  refine lv_if_ne (tgt := 254) hx hb dX9_lineHere_249 (by decide) (fun c249_191 => ?_) (fun c249_191 => ?_)
                  · have c249_191 : ¬ (r186.toInt = 0) := mt (cv_eq rfl (by decide)).mpr c249_191
                    refine lv_aload_n hx hb dX9_lineHere_254 rfl (lv_at hl 3 rfl) ?_
                    have hPc := (rgP20_5ec38fa hP)
                    have hKc := (rgK19_4f62bf3 hK)
                    have hDc := (rgD20_1e423f8 hD)
                    have hFc := freeW hDc hS hA
                    refine va_callv (va_runV (As := []) (rest := []) ⟨hx, hb, hml, hown, hts⟩ (k_X9_steps l dC dI g H.size (a0) (a0_0) (a0_1) (a0_2) (a0_3) (a0_4) (a0_5) (a0_6) (za0_7_150) (za0_8_151) (za0_9_152) (za0_10_153) (za0_11_154) (za0_12_187) (za0_13_188) (za0_14_157) (za0_15_158) (za0_16_159) (a0_17) (a0_18) (a0_19) (a0_20) (a0_21) (a0_22) (a0_23) (a0_24) (a0_25) (a0_26) (a0_27) (a0_28) (a0_29) (a0_30) (a0_31) (a0_32) (a0_33) (a0_34) (a0_35) (za0_36_160) (za0_37_161) (a0_38) (a0_39) (a0_40) (a0_41) (a0_42) (a0_43) (a0_4_c) (a0_4_f) (by omega) (by omega) (by omega) (by omega) (by omega) (by omega) (by omega)) (cwV 0 hts (gwV qw_468 qw_469 qw_470 qw_386 qw_467) rfl rfl rfl (by decide +kernel) ⟨Nat.le_of_ble_eq_true rfl, Nat.le_of_ble_eq_true rfl⟩) ⟨fun a U g9 mk q => ⟨q.1, q.2.1, q.2.2.1, va_K.moved (u := U) (U := U.calling g9 mk a) (Vm.Alike.refl U.vm) q.2.2.2.1, q.2.2.2.2.1, Ev.bl q.2.2.2.2.2⟩, va_recv hK hP (ci := 8) (q0 := 0) rfl rgL20_92b1330, fun U hU hW => ⟨rfl, by rw [hU], atB hU hPc, va_K.moved hW.alike hKc, hDc.weaken (fun _ _ _ _ => trivial), hE.go hS hFc hU hW⟩⟩ rfl rfl hl.1 rfl (lv_room (Nat.le_of_ble_eq_true rfl)) dX9_lineHere_255 ⟨Nat.le_of_ble_eq_true rfl, Nat.le_of_ble_eq_true rfl⟩) hS (fun q _ h => hFc q h) hFc (fun u192 t H1 locs ht hvm h_u192 hB hz1 hk1 hS => ?_)
                    obtain ⟨za0_7_194, za0_8_195, za0_9_196, za0_10_197, za0_11_198, hF199, hF200, hP1, hK1, hD1⟩ := hB
                    have hK1 := va_K.moved hvm.symm hK1
                    have hJ9 := rgJ20_0050ee0 hP hD hk1 hFc (atH ht hP1) hD1
                    clear hP hD hPc hKc hDc hFc hP1 hD1 hk1 hz1
                    obtain ⟨hP, hD⟩ := hJ9
                    clear hK1
                    generalize H1 = H at hP hS ⊢
                    refine W.widen (k := 0) (n := 0) (Nat.le_of_ble_eq_true rfl) (Nat.le_of_ble_eq_true rfl) ?_
                    refine lv_iconst (v := 1) hx hb dX9_lineHere_258 (by decide) ?_
                    have qc1 : (1 : Int32).toInt = 1 := by decide
                    refine W.widen (k := 0) (n := 0) (Nat.le_of_ble_eq_true rfl) (Nat.le_of_ble_eq_true rfl) ?_
                    have hP9 := hP
                    have hD9 := hD
                    have hK9 := (rgK19_5d0c76c hK)
                    have hf9_0 : (0 ≤ za0_7_194.toInt ∧ za0_7_194.toInt ≤ 1000) := by omega
                    have hf9_1 : (0 ≤ za0_8_195.toInt ∧ za0_8_195.toInt ≤ 1000) := by omega
                    have hf9_2 : ((-1) ≤ za0_37_161.toInt ∧ za0_37_161.toInt ≤ 23) := by omega
                    have hf9_3 : vr 0 8 a0_18_f := h_a0_18_f
                    have hf9_4 : vr 0 4 a0_19_f := h_a0_19_f
                    have hf9_5 : vr 0 24 za0_20_f_162 := hF171
                    have hf9_6 : vr 0 12 a0_21_f := h_a0_21_f
                    have hf9_7 : ((1 : Int32) = 0 ∨ (1 : Int32) = 1) := (by decide)
                    have hf9_8 : ((1 : Int32).toInt = 1 → (a0_18_f a0_17.toNatClampNeg).toInt + (a0_19_f a0_17.toNatClampNeg).toInt + (za0_20_f_162 a0_17.toNatClampNeg).toInt + (a0_21_f a0_17.toNatClampNeg).toInt = (a0_18_f a0_17.toNatClampNeg).toInt + (a0_19_f a0_17.toNatClampNeg).toInt + (a0_20_f a0_17.toNatClampNeg).toInt + (a0_21_f a0_17.toNatClampNeg).toInt + 1) := by omega
                    have hf9_9 : (KP 1 a0_20_f za0_20_f_162) := by first | exact KP.rf | assumption
                    have hf9_10 : (KP 1 a0_21_f a0_21_f) := by first | exact KP.rf | assumption
                    have hf9_11 : (KP 12 a0_32_f a0_32_f) := by first | exact KP.rf | assumption
                    have hf9_12 : (KP 12 a0_33_f a0_33_f) := by first | exact KP.rf | assumption
                    have hf9_13 : (PTOk za0_28_f_164 (za0_20_f_162 a0_17.toNatClampNeg).toInt) := by assumption
                    have hf9_14 : (WOk a0_32_f a0_33_f 12 (a0_21_f a0_17.toNatClampNeg).toInt) := by assumption
                    exact W.zret (v := 1) hx hb hr rfl (fun t ht hW => ⟨⟨1, 1, rfl, rfl, za0_7_194, za0_8_195, za0_9_196, za0_10_197, za0_11_198, za0_12_187, za0_13_188, za0_14_157, za0_15_158, za0_16_159, za0_36_160, za0_37_161, a0_18_f, a0_19_f, za0_20_f_162, a0_21_f, a0_22_f, a0_23_f, a0_24_f, a0_25_f, a0_26_f, za0_27_f_163, za0_28_f_164, za0_29_f_165, za0_30_f_166, za0_31_f_167, a0_32_f, a0_33_f, a0_34_f, a0_35_f, hf9_0, hf9_1, hf9_2, hf9_3, hf9_4, hf9_5, hf9_6, hf9_7, hf9_8, hf9_9, hf9_10, hf9_11, hf9_12, hf9_13, hf9_14, atB ht hP9, va_K.moved hW.alike hK9, hD9⟩, hS.F ht⟩) hS.2.2 dX9_lineHere_259
                  · have c249_191 : r186.toInt = 0 := (cv_eq rfl (by decide)).mp c249_191
                    refine lv_iconst (v := 0) hx hb dX9_lineHere_252 (by decide) ?_
                    have qc0 : (0 : Int32).toInt = 0 := by decide
                    refine W.widen (k := 0) (n := 0) (Nat.le_of_ble_eq_true rfl) (Nat.le_of_ble_eq_true rfl) ?_
                    have hP9 := hP
                    have hD9 := hD
                    have hK9 := (rgK19_5d0c76c hK)
                    have hf9_0 : (0 ≤ za0_7_150.toInt ∧ za0_7_150.toInt ≤ 1000) := by omega
                    have hf9_1 : (0 ≤ za0_8_151.toInt ∧ za0_8_151.toInt ≤ 1000) := by omega
                    have hf9_2 : ((-1) ≤ za0_37_161.toInt ∧ za0_37_161.toInt ≤ 23) := by omega
                    have hf9_3 : vr 0 8 a0_18_f := h_a0_18_f
                    have hf9_4 : vr 0 4 a0_19_f := h_a0_19_f
                    have hf9_5 : vr 0 24 za0_20_f_162 := hF171
                    have hf9_6 : vr 0 12 a0_21_f := h_a0_21_f
                    have hf9_7 : ((0 : Int32) = 0 ∨ (0 : Int32) = 1) := (by decide)
                    have hf9_8 : ((0 : Int32).toInt = 1 → (a0_18_f a0_17.toNatClampNeg).toInt + (a0_19_f a0_17.toNatClampNeg).toInt + (za0_20_f_162 a0_17.toNatClampNeg).toInt + (a0_21_f a0_17.toNatClampNeg).toInt = (a0_18_f a0_17.toNatClampNeg).toInt + (a0_19_f a0_17.toNatClampNeg).toInt + (a0_20_f a0_17.toNatClampNeg).toInt + (a0_21_f a0_17.toNatClampNeg).toInt + 1) := by omega
                    have hf9_9 : (KP 1 a0_20_f za0_20_f_162) := by first | exact KP.rf | assumption
                    have hf9_10 : (KP 1 a0_21_f a0_21_f) := by first | exact KP.rf | assumption
                    have hf9_11 : (KP 12 a0_32_f a0_32_f) := by first | exact KP.rf | assumption
                    have hf9_12 : (KP 12 a0_33_f a0_33_f) := by first | exact KP.rf | assumption
                    have hf9_13 : (PTOk za0_28_f_164 (za0_20_f_162 a0_17.toNatClampNeg).toInt) := by assumption
                    have hf9_14 : (WOk a0_32_f a0_33_f 12 (a0_21_f a0_17.toNatClampNeg).toInt) := by assumption
                    exact W.zret (v := 0) hx hb hr rfl (fun t ht hW => ⟨⟨0, 0, rfl, rfl, za0_7_150, za0_8_151, za0_9_152, za0_10_153, za0_11_154, za0_12_187, za0_13_188, za0_14_157, za0_15_158, za0_16_159, za0_36_160, za0_37_161, a0_18_f, a0_19_f, za0_20_f_162, a0_21_f, a0_22_f, a0_23_f, a0_24_f, a0_25_f, a0_26_f, za0_27_f_163, za0_28_f_164, za0_29_f_165, za0_30_f_166, za0_31_f_167, a0_32_f, a0_33_f, a0_34_f, a0_35_f, hf9_0, hf9_1, hf9_2, hf9_3, hf9_4, hf9_5, hf9_6, hf9_7, hf9_8, hf9_9, hf9_10, hf9_11, hf9_12, hf9_13, hf9_14, atB ht hP9, va_K.moved hW.alike hK9, hD9⟩, hS.F ht⟩) hS.2.2 dX9_lineHere_253
            · have c178_135 : r130.toInt = 0 := (cv_eq rfl (by decide)).mp c178_135
              refine lv_iconst (v := 0) hx hb dX9_lineHere_181 (by decide) ?_
              have qc0 : (0 : Int32).toInt = 0 := by decide
              refine W.widen (k := 0) (n := 0) (Nat.le_of_ble_eq_true rfl) (Nat.le_of_ble_eq_true rfl) ?_
              have hP9 := hP
              have hD9 := hD
              have hK9 := (rgK19_5d0c76c hK)
              have hf9_0 : (0 ≤ a0_7.toInt ∧ a0_7.toInt ≤ 1000) := by omega
              have hf9_1 : (0 ≤ a0_8.toInt ∧ a0_8.toInt ≤ 1000) := by omega
              have hf9_2 : ((-1) ≤ a0_37.toInt ∧ a0_37.toInt ≤ 23) := by omega
              have hf9_3 : vr 0 8 a0_18_f := h_a0_18_f
              have hf9_4 : vr 0 4 a0_19_f := h_a0_19_f
              have hf9_5 : vr 0 24 a0_20_f := h_a0_20_f
              have hf9_6 : vr 0 12 a0_21_f := h_a0_21_f
              have hf9_7 : ((0 : Int32) = 0 ∨ (0 : Int32) = 1) := (by decide)
              have hf9_8 : ((0 : Int32).toInt = 1 → (a0_18_f a0_17.toNatClampNeg).toInt + (a0_19_f a0_17.toNatClampNeg).toInt + (a0_20_f a0_17.toNatClampNeg).toInt + (a0_21_f a0_17.toNatClampNeg).toInt = (a0_18_f a0_17.toNatClampNeg).toInt + (a0_19_f a0_17.toNatClampNeg).toInt + (a0_20_f a0_17.toNatClampNeg).toInt + (a0_21_f a0_17.toNatClampNeg).toInt + 1) := by omega
              have hf9_9 : (KP 1 a0_20_f a0_20_f) := by first | exact KP.rf | assumption
              have hf9_10 : (KP 1 a0_21_f a0_21_f) := by first | exact KP.rf | assumption
              have hf9_11 : (KP 12 a0_32_f a0_32_f) := by first | exact KP.rf | assumption
              have hf9_12 : (KP 12 a0_33_f a0_33_f) := by first | exact KP.rf | assumption
              have hf9_13 : (PTOk a0_28_f (a0_20_f a0_17.toNatClampNeg).toInt) := by assumption
              have hf9_14 : (WOk a0_32_f a0_33_f 12 (a0_21_f a0_17.toNatClampNeg).toInt) := by assumption
              exact W.zret (v := 0) hx hb hr rfl (fun t ht hW => ⟨⟨0, 0, rfl, rfl, a0_7, a0_8, a0_9, a0_10, a0_11, za0_12_131, za0_13_132, a0_14, a0_15, a0_16, a0_36, a0_37, a0_18_f, a0_19_f, a0_20_f, a0_21_f, a0_22_f, a0_23_f, a0_24_f, a0_25_f, a0_26_f, a0_27_f, a0_28_f, a0_29_f, a0_30_f, a0_31_f, a0_32_f, a0_33_f, a0_34_f, a0_35_f, hf9_0, hf9_1, hf9_2, hf9_3, hf9_4, hf9_5, hf9_6, hf9_7, hf9_8, hf9_9, hf9_10, hf9_11, hf9_12, hf9_13, hf9_14, atB ht hP9, va_K.moved hW.alike hK9, hD9⟩, hS.F ht⟩) hS.2.2 dX9_lineHere_182
        · have c68_116 : r111.toInt = 0 := (cv_eq rfl (by decide)).mp c68_116
          refine lv_iconst (v := 0) hx hb dX9_lineHere_71 (by decide) ?_
          have qc0 : (0 : Int32).toInt = 0 := by decide
          refine W.widen (k := 0) (n := 0) (Nat.le_of_ble_eq_true rfl) (Nat.le_of_ble_eq_true rfl) ?_
          have hP9 := hP
          have hD9 := hD
          have hK9 := (rgK19_5d0c76c hK)
          have hf9_0 : (0 ≤ a0_7.toInt ∧ a0_7.toInt ≤ 1000) := by omega
          have hf9_1 : (0 ≤ a0_8.toInt ∧ a0_8.toInt ≤ 1000) := by omega
          have hf9_2 : ((-1) ≤ a0_37.toInt ∧ a0_37.toInt ≤ 23) := by omega
          have hf9_3 : vr 0 8 a0_18_f := h_a0_18_f
          have hf9_4 : vr 0 4 a0_19_f := h_a0_19_f
          have hf9_5 : vr 0 24 a0_20_f := h_a0_20_f
          have hf9_6 : vr 0 12 a0_21_f := h_a0_21_f
          have hf9_7 : ((0 : Int32) = 0 ∨ (0 : Int32) = 1) := (by decide)
          have hf9_8 : ((0 : Int32).toInt = 1 → (a0_18_f a0_17.toNatClampNeg).toInt + (a0_19_f a0_17.toNatClampNeg).toInt + (a0_20_f a0_17.toNatClampNeg).toInt + (a0_21_f a0_17.toNatClampNeg).toInt = (a0_18_f a0_17.toNatClampNeg).toInt + (a0_19_f a0_17.toNatClampNeg).toInt + (a0_20_f a0_17.toNatClampNeg).toInt + (a0_21_f a0_17.toNatClampNeg).toInt + 1) := by omega
          have hf9_9 : (KP 1 a0_20_f a0_20_f) := by first | exact KP.rf | assumption
          have hf9_10 : (KP 1 a0_21_f a0_21_f) := by first | exact KP.rf | assumption
          have hf9_11 : (KP 12 a0_32_f a0_32_f) := by first | exact KP.rf | assumption
          have hf9_12 : (KP 12 a0_33_f a0_33_f) := by first | exact KP.rf | assumption
          have hf9_13 : (PTOk a0_28_f (a0_20_f a0_17.toNatClampNeg).toInt) := by assumption
          have hf9_14 : (WOk a0_32_f a0_33_f 12 (a0_21_f a0_17.toNatClampNeg).toInt) := by assumption
          exact W.zret (v := 0) hx hb hr rfl (fun t ht hW => ⟨⟨0, 0, rfl, rfl, a0_7, a0_8, a0_9, a0_10, a0_11, za0_12_112, za0_13_113, a0_14, a0_15, a0_16, a0_36, a0_37, a0_18_f, a0_19_f, a0_20_f, a0_21_f, a0_22_f, a0_23_f, a0_24_f, a0_25_f, a0_26_f, a0_27_f, a0_28_f, a0_29_f, a0_30_f, a0_31_f, a0_32_f, a0_33_f, a0_34_f, a0_35_f, hf9_0, hf9_1, hf9_2, hf9_3, hf9_4, hf9_5, hf9_6, hf9_7, hf9_8, hf9_9, hf9_10, hf9_11, hf9_12, hf9_13, hf9_14, atB ht hP9, va_K.moved hW.alike hK9, hD9⟩, hS.F ht⟩) hS.2.2 dX9_lineHere_72
    · have c19_4 : ¬ (r3.toInt = 0) := mt (cv_eq rfl (by decide)).mpr c19_4
      refine lv_iconst (v := 1) hx hb dX9_lineHere_22 (by decide) ?_
      refine lv_goto (tgt := 53) hx hb dX9_lineHere_23 (by decide) ?_
      refine lv_istore_n (lv' := [(1, .int 1), (0, .ref a0)]) hx hb dX9_lineHere_53 rfl hl (by decide) rfl (fun ls hl => ?_)
      refine lv_aload_n hx hb dX9_lineHere_54 rfl (lv_at hl 1 rfl) ?_
      refine lv_iload_n hx hb dX9_lineHere_55 rfl (lv_at hl 0 rfl) ?_
      refine lv_if_lt (tgt := 63) hx hb dX9_lineHere_56 (by decide) (fun c56_201 => by exfalso; exact absurd c56_201 (by decide)) (fun c56_201 => ?_)
      refine lv_iconst (v := 1) hx hb dX9_lineHere_59 (by decide) ?_
      refine lv_goto (tgt := 64) hx hb dX9_lineHere_60 (by decide) ?_
      refine lv_iconst (v := 1) hx hb dX9_lineHere_64 (by decide) ?_
      have qc1 : (1 : Int32).toInt = 1 := by decide
      have hPc := (rgP20_580fa52 hP)
      have hKc := (rgK19_5d0c76c hK)
      have hDc := (rgD20_ec33658 hD)
      have hFc := freeW hDc hS hA
      refine va_calli (va_runV (As := [.int 1, .int 1]) (rest := []) ⟨hx, hb, hml, hown, hts⟩ (k_X9_must l dC dI g s.heap.size (a0) (1) (1) (a0_0) (a0_1) (a0_2) (a0_3) (a0_4) (a0_5) (a0_6) (a0_7) (a0_8) (a0_9) (a0_10) (a0_11) (a0_12) (a0_13) (a0_14) (a0_15) (a0_16) (a0_17) (a0_18) (a0_19) (a0_20) (a0_21) (a0_22) (a0_23) (a0_24) (a0_25) (a0_26) (a0_27) (a0_28) (a0_29) (a0_30) (a0_31) (a0_32) (a0_33) (a0_34) (a0_35) (a0_36) (a0_37) (a0_38) (a0_39) (a0_40) (a0_41) (a0_42) (a0_43) (by omega) (by omega) (by omega) (by omega) (by omega) (by omega) (by omega) (by omega)) (cwV 2 hts (gwV qw_472 qw_473 qw_474 qw_386 qw_471) rfl rfl rfl (by decide +kernel) ⟨Nat.le_of_ble_eq_true rfl, Nat.le_of_ble_eq_true rfl⟩) ⟨fun a U g9 mk q => ⟨q.1, q.2.1, q.2.2.1, va_K.moved (u := U) (U := U.calling g9 mk a) (Vm.Alike.refl U.vm) q.2.2.2.1, q.2.2.2.2.1, Ev.bl q.2.2.2.2.2⟩, va_recv hK hP (ci := 8) (q0 := 0) rfl rgL20_92b1330, fun U hU hW => ⟨rfl, by rw [hU], atB hU hPc, va_K.moved hW.alike hKc, hDc.weaken (fun _ _ _ _ => trivial), hE.go hS hFc hU hW⟩⟩ rfl rfl hl.1 rfl (lv_room (Nat.le_of_ble_eq_true rfl)) dX9_lineHere_65 ⟨Nat.le_of_ble_eq_true rfl, Nat.le_of_ble_eq_true rfl⟩) hS (fun q _ h => hFc q h) hFc (fun r203 u202 t H1 locs ht hvm h_u202 hB hz1 hk1 hS => ?_)
      obtain ⟨za0_12_204, za0_13_205, hF206, hF207, hP1, hK1, hD1⟩ := hB
      have hK1 := va_K.moved hvm.symm hK1
      have hJ9 := rgJ20_b6a011a hP hD hk1 hFc (atH ht hP1) hD1
      clear hP hD hPc hKc hDc hFc hP1 hD1 hk1 hz1
      obtain ⟨hP, hD⟩ := hJ9
      clear hK1
      generalize H1 = H at hP hS ⊢
      refine W.widen (k := 0) (n := 0) (Nat.le_of_ble_eq_true rfl) (Nat.le_of_ble_eq_true rfl) ?_
      have h_r203 := congrArg Int32.toInt h_u202
      have hz_r203 : r203 = 0 ∨ r203 = 1 := h_u202 ▸ hF206
      have b_r203 := z01 hz_r203
      refine lv_if_ne (tgt := 73) hx hb dX9_lineHere_68 (by decide) (fun c68_208 => ?_) (fun c68_208 => ?_)
      · have c68_208 : ¬ (r203.toInt = 0) := mt (cv_eq rfl (by decide)).mpr c68_208
        refine lv_iload_n hx hb dX9_lineHere_73 rfl (lv_at hl 0 rfl) ?_
        refine lv_if_ne (tgt := 99) hx hb dX9_lineHere_74 (by decide) (fun c74_209 => ?_) (fun c74_209 => by exfalso; exact absurd c74_209 (by decide))
        refine lv_iload_n hx hb dX9_lineHere_99 rfl (lv_at hl 0 rfl) ?_
        refine lv_iconst (v := 1) hx hb dX9_lineHere_100 (by decide) ?_
        refine lv_icmp_ne (tgt := 125) hx hb dX9_lineHere_101 (by decide) (fun c101_210 => by exfalso; exact absurd c101_210 (by decide)) (fun c101_210 => ?_)
        refine lv_aload_n hx hb dX9_lineHere_104 rfl (lv_at hl 1 rfl) ?_
        refine va_get (D := (dC, dI)) (ci := 8) (v := .ref a0_19) (C := RX9) (T := TX9) (N := 44) hx hb hts inlX9 hown hK hP 0 rgL20_92b1330 rfl 19 (by decide) (hts (.fieldLink RX9 17 "ClosedUntilModel" "deposits" "[I") qw_437) (fun _ h9 => h9) rfl dX9_lineHere_105 ?_
        refine lv_aload_n hx hb dX9_lineHere_108 rfl (lv_at hl 1 rfl) ?_
        refine va_get (D := (dC, dI)) (ci := 8) (v := .int a0_17) (C := RX9) (T := TX9) (N := 44) hx hb hts inlX9 hown hK hP 0 rgL20_92b1330 rfl 17 (by decide) (hts (.fieldLink RX9 256 "ClosedUntilModel" "bench" "I") qw_435) (fun _ h9 => h9) rfl dX9_lineHere_109 ?_
        refine va_iald hx hb hK hP 3 2 rgL20_7e6d0fc rgT19_191c389 (vinI (by omega) (by omega)) dX9_lineHere_112 ?_
        refine lv_topi (fun x211 e_x211 => ?_)
        have q_x211 := congrArg Int32.toInt e_x211
        have b_x211 : 0 ≤ x211.toInt ∧ x211.toInt ≤ 4 := vr_at (lo := 0) (hi := 4) (f := a0_19_f) h_a0_19_f e_x211
        refine lv_iconst (v := 4) hx hb dX9_lineHere_113 (by decide) ?_
        refine lv_icmp_ge (tgt := 121) hx hb dX9_lineHere_114 (by decide) (fun c114_212 => ?_) (fun c114_212 => ?_)
        · have c114_212 : 4 ≤ x211.toInt := (cv_le (by decide) rfl).mp c114_212
          refine lv_iconst (v := 0) hx hb dX9_lineHere_121 (by decide) ?_
          refine lv_goto (tgt := 171) hx hb dX9_lineHere_122 (by decide) ?_
          refine lv_istore_n (lv' := [(2, .int 0), (1, .int 1), (0, .ref a0)]) hx hb dX9_lineHere_171 rfl hl (by decide) rfl (fun ls hl => ?_)
          refine lv_aload_n hx hb dX9_lineHere_172 rfl (lv_at hl 2 rfl) ?_
          refine lv_iload_n hx hb dX9_lineHere_173 rfl (lv_at hl 0 rfl) ?_
          refine lv_iconst (v := 5) hx hb dX9_lineHere_174 (by decide) ?_
          have qc0 : (0 : Int32).toInt = 0 := by decide
          have qc5 : (5 : Int32).toInt = 5 := by decide
          have hPc := (rgP20_580fa52 hP)
          have hKc := (rgK19_5d0c76c hK)
          have hDc := (rgD20_ec33658 hD)
          have hFc := freeW hDc hS hA
          refine va_calli (va_runV (As := [.int 0, .int 5]) (rest := []) ⟨hx, hb, hml, hown, hts⟩ (k_X9_must l dC dI g H.size (a0) (0) (5) (a0_0) (a0_1) (a0_2) (a0_3) (a0_4) (a0_5) (a0_6) (a0_7) (a0_8) (a0_9) (a0_10) (a0_11) (za0_12_204) (za0_13_205) (a0_14) (a0_15) (a0_16) (a0_17) (a0_18) (a0_19) (a0_20) (a0_21) (a0_22) (a0_23) (a0_24) (a0_25) (a0_26) (a0_27) (a0_28) (a0_29) (a0_30) (a0_31) (a0_32) (a0_33) (a0_34) (a0_35) (a0_36) (a0_37) (a0_38) (a0_39) (a0_40) (a0_41) (a0_42) (a0_43) (by omega) (by omega) (by omega) (by omega) (by omega) (by omega) (by omega) (by omega)) (cwV 2 hts (gwV qw_472 qw_473 qw_474 qw_386 qw_471) rfl rfl rfl (by decide +kernel) ⟨Nat.le_of_ble_eq_true rfl, Nat.le_of_ble_eq_true rfl⟩) ⟨fun a U g9 mk q => ⟨q.1, q.2.1, q.2.2.1, va_K.moved (u := U) (U := U.calling g9 mk a) (Vm.Alike.refl U.vm) q.2.2.2.1, q.2.2.2.2.1, Ev.bl q.2.2.2.2.2⟩, va_recv hK hP (ci := 8) (q0 := 0) rfl rgL20_92b1330, fun U hU hW => ⟨rfl, by rw [hU], atB hU hPc, va_K.moved hW.alike hKc, hDc.weaken (fun _ _ _ _ => trivial), hE.go hS hFc hU hW⟩⟩ rfl rfl hl.1 rfl (lv_room (Nat.le_of_ble_eq_true rfl)) dX9_lineHere_175 ⟨Nat.le_of_ble_eq_true rfl, Nat.le_of_ble_eq_true rfl⟩) hS (fun q _ h => hFc q h) hFc (fun r214 u213 t H1 locs ht hvm h_u213 hB hz1 hk1 hS => ?_)
          obtain ⟨za0_12_215, za0_13_216, hF217, hF218, hP1, hK1, hD1⟩ := hB
          have hK1 := va_K.moved hvm.symm hK1
          have hJ9 := rgJ20_b6a011a hP hD hk1 hFc (atH ht hP1) hD1
          clear hP hD hPc hKc hDc hFc hP1 hD1 hk1 hz1
          obtain ⟨hP, hD⟩ := hJ9
          clear hK1
          generalize H1 = H at hP hS ⊢
          refine W.widen (k := 0) (n := 0) (Nat.le_of_ble_eq_true rfl) (Nat.le_of_ble_eq_true rfl) ?_
          have h_r214 := congrArg Int32.toInt h_u213
          have hz_r214 : r214 = 0 ∨ r214 = 1 := h_u213 ▸ hF217
          have b_r214 := z01 hz_r214
          refine cst (v := 0) (Int32.toInt_inj.mp (by rw [show (0 : Int32).toInt = 0 by decide]; omega)) ?_
          refine lv_if_ne (tgt := 183) hx hb dX9_lineHere_178 (by decide) (fun c178_219 => by exfalso; exact absurd c178_219 (by decide)) (fun c178_219 => ?_)
          refine lv_iconst (v := 0) hx hb dX9_lineHere_181 (by decide) ?_
          have qc0 : (0 : Int32).toInt = 0 := by decide
          refine W.widen (k := 0) (n := 0) (Nat.le_of_ble_eq_true rfl) (Nat.le_of_ble_eq_true rfl) ?_
          have hP9 := hP
          have hD9 := hD
          have hK9 := (rgK19_5d0c76c hK)
          have hf9_0 : (0 ≤ a0_7.toInt ∧ a0_7.toInt ≤ 1000) := by omega
          have hf9_1 : (0 ≤ a0_8.toInt ∧ a0_8.toInt ≤ 1000) := by omega
          have hf9_2 : ((-1) ≤ a0_37.toInt ∧ a0_37.toInt ≤ 23) := by omega
          have hf9_3 : vr 0 8 a0_18_f := h_a0_18_f
          have hf9_4 : vr 0 4 a0_19_f := h_a0_19_f
          have hf9_5 : vr 0 24 a0_20_f := h_a0_20_f
          have hf9_6 : vr 0 12 a0_21_f := h_a0_21_f
          have hf9_7 : ((0 : Int32) = 0 ∨ (0 : Int32) = 1) := (by decide)
          have hf9_8 : ((0 : Int32).toInt = 1 → (a0_18_f a0_17.toNatClampNeg).toInt + (a0_19_f a0_17.toNatClampNeg).toInt + (a0_20_f a0_17.toNatClampNeg).toInt + (a0_21_f a0_17.toNatClampNeg).toInt = (a0_18_f a0_17.toNatClampNeg).toInt + (a0_19_f a0_17.toNatClampNeg).toInt + (a0_20_f a0_17.toNatClampNeg).toInt + (a0_21_f a0_17.toNatClampNeg).toInt + 1) := by omega
          have hf9_9 : (KP 1 a0_20_f a0_20_f) := by first | exact KP.rf | assumption
          have hf9_10 : (KP 1 a0_21_f a0_21_f) := by first | exact KP.rf | assumption
          have hf9_11 : (KP 12 a0_32_f a0_32_f) := by first | exact KP.rf | assumption
          have hf9_12 : (KP 12 a0_33_f a0_33_f) := by first | exact KP.rf | assumption
          have hf9_13 : (PTOk a0_28_f (a0_20_f a0_17.toNatClampNeg).toInt) := by assumption
          have hf9_14 : (WOk a0_32_f a0_33_f 12 (a0_21_f a0_17.toNatClampNeg).toInt) := by assumption
          exact W.zret (v := 0) hx hb hr rfl (fun t ht hW => ⟨⟨0, 0, rfl, rfl, a0_7, a0_8, a0_9, a0_10, a0_11, za0_12_215, za0_13_216, a0_14, a0_15, a0_16, a0_36, a0_37, a0_18_f, a0_19_f, a0_20_f, a0_21_f, a0_22_f, a0_23_f, a0_24_f, a0_25_f, a0_26_f, a0_27_f, a0_28_f, a0_29_f, a0_30_f, a0_31_f, a0_32_f, a0_33_f, a0_34_f, a0_35_f, hf9_0, hf9_1, hf9_2, hf9_3, hf9_4, hf9_5, hf9_6, hf9_7, hf9_8, hf9_9, hf9_10, hf9_11, hf9_12, hf9_13, hf9_14, atB ht hP9, va_K.moved hW.alike hK9, hD9⟩, hS.F ht⟩) hS.2.2 dX9_lineHere_182
        · have c114_212 : ¬ (4 ≤ x211.toInt) := mt (cv_le (by decide) rfl).mpr c114_212
          refine lv_iconst (v := 1) hx hb dX9_lineHere_117 (by decide) ?_
          refine lv_goto (tgt := 171) hx hb dX9_lineHere_118 (by decide) ?_
          refine lv_istore_n (lv' := [(2, .int 1), (1, .int 1), (0, .ref a0)]) hx hb dX9_lineHere_171 rfl hl (by decide) rfl (fun ls hl => ?_)
          refine lv_aload_n hx hb dX9_lineHere_172 rfl (lv_at hl 2 rfl) ?_
          refine lv_iload_n hx hb dX9_lineHere_173 rfl (lv_at hl 0 rfl) ?_
          refine lv_iconst (v := 5) hx hb dX9_lineHere_174 (by decide) ?_
          have qc1 : (1 : Int32).toInt = 1 := by decide
          have qc5 : (5 : Int32).toInt = 5 := by decide
          have hPc := (rgP20_580fa52 hP)
          have hKc := (rgK19_5d0c76c hK)
          have hDc := (rgD20_ec33658 hD)
          have hFc := freeW hDc hS hA
          refine va_calli (va_runV (As := [.int 1, .int 5]) (rest := []) ⟨hx, hb, hml, hown, hts⟩ (k_X9_must l dC dI g H.size (a0) (1) (5) (a0_0) (a0_1) (a0_2) (a0_3) (a0_4) (a0_5) (a0_6) (a0_7) (a0_8) (a0_9) (a0_10) (a0_11) (za0_12_204) (za0_13_205) (a0_14) (a0_15) (a0_16) (a0_17) (a0_18) (a0_19) (a0_20) (a0_21) (a0_22) (a0_23) (a0_24) (a0_25) (a0_26) (a0_27) (a0_28) (a0_29) (a0_30) (a0_31) (a0_32) (a0_33) (a0_34) (a0_35) (a0_36) (a0_37) (a0_38) (a0_39) (a0_40) (a0_41) (a0_42) (a0_43) (by omega) (by omega) (by omega) (by omega) (by omega) (by omega) (by omega) (by omega)) (cwV 2 hts (gwV qw_472 qw_473 qw_474 qw_386 qw_471) rfl rfl rfl (by decide +kernel) ⟨Nat.le_of_ble_eq_true rfl, Nat.le_of_ble_eq_true rfl⟩) ⟨fun a U g9 mk q => ⟨q.1, q.2.1, q.2.2.1, va_K.moved (u := U) (U := U.calling g9 mk a) (Vm.Alike.refl U.vm) q.2.2.2.1, q.2.2.2.2.1, Ev.bl q.2.2.2.2.2⟩, va_recv hK hP (ci := 8) (q0 := 0) rfl rgL20_92b1330, fun U hU hW => ⟨rfl, by rw [hU], atB hU hPc, va_K.moved hW.alike hKc, hDc.weaken (fun _ _ _ _ => trivial), hE.go hS hFc hU hW⟩⟩ rfl rfl hl.1 rfl (lv_room (Nat.le_of_ble_eq_true rfl)) dX9_lineHere_175 ⟨Nat.le_of_ble_eq_true rfl, Nat.le_of_ble_eq_true rfl⟩) hS (fun q _ h => hFc q h) hFc (fun r221 u220 t H1 locs ht hvm h_u220 hB hz1 hk1 hS => ?_)
          obtain ⟨za0_12_222, za0_13_223, hF224, hF225, hP1, hK1, hD1⟩ := hB
          have hK1 := va_K.moved hvm.symm hK1
          have hJ9 := rgJ20_b6a011a hP hD hk1 hFc (atH ht hP1) hD1
          clear hP hD hPc hKc hDc hFc hP1 hD1 hk1 hz1
          obtain ⟨hP, hD⟩ := hJ9
          clear hK1
          generalize H1 = H at hP hS ⊢
          refine W.widen (k := 0) (n := 0) (Nat.le_of_ble_eq_true rfl) (Nat.le_of_ble_eq_true rfl) ?_
          have h_r221 := congrArg Int32.toInt h_u220
          have hz_r221 : r221 = 0 ∨ r221 = 1 := h_u220 ▸ hF224
          have b_r221 := z01 hz_r221
          refine lv_if_ne (tgt := 183) hx hb dX9_lineHere_178 (by decide) (fun c178_226 => ?_) (fun c178_226 => ?_)
          · have c178_226 : ¬ (r221.toInt = 0) := mt (cv_eq rfl (by decide)).mpr c178_226
            refine lv_aload_n hx hb dX9_lineHere_183 rfl (lv_at hl 2 rfl) ?_
            have hPc := (rgP20_5ec38fa hP)
            have hKc := (rgK19_4f62bf3 hK)
            have hDc := (rgD20_1e423f8 hD)
            have hFc := freeW hDc hS hA
            refine va_callv (va_runV (As := []) (rest := []) ⟨hx, hb, hml, hown, hts⟩ (k_X9_steps l dC dI g H.size (a0) (a0_0) (a0_1) (a0_2) (a0_3) (a0_4) (a0_5) (a0_6) (a0_7) (a0_8) (a0_9) (a0_10) (a0_11) (za0_12_222) (za0_13_223) (a0_14) (a0_15) (a0_16) (a0_17) (a0_18) (a0_19) (a0_20) (a0_21) (a0_22) (a0_23) (a0_24) (a0_25) (a0_26) (a0_27) (a0_28) (a0_29) (a0_30) (a0_31) (a0_32) (a0_33) (a0_34) (a0_35) (a0_36) (a0_37) (a0_38) (a0_39) (a0_40) (a0_41) (a0_42) (a0_43) (a0_4_c) (a0_4_f) (by omega) (by omega) (by omega) (by omega) (by omega) (by omega) (by omega)) (cwV 0 hts (gwV qw_468 qw_469 qw_470 qw_386 qw_467) rfl rfl rfl (by decide +kernel) ⟨Nat.le_of_ble_eq_true rfl, Nat.le_of_ble_eq_true rfl⟩) ⟨fun a U g9 mk q => ⟨q.1, q.2.1, q.2.2.1, va_K.moved (u := U) (U := U.calling g9 mk a) (Vm.Alike.refl U.vm) q.2.2.2.1, q.2.2.2.2.1, Ev.bl q.2.2.2.2.2⟩, va_recv hK hP (ci := 8) (q0 := 0) rfl rgL20_92b1330, fun U hU hW => ⟨rfl, by rw [hU], atB hU hPc, va_K.moved hW.alike hKc, hDc.weaken (fun _ _ _ _ => trivial), hE.go hS hFc hU hW⟩⟩ rfl rfl hl.1 rfl (lv_room (Nat.le_of_ble_eq_true rfl)) dX9_lineHere_184 ⟨Nat.le_of_ble_eq_true rfl, Nat.le_of_ble_eq_true rfl⟩) hS (fun q _ h => hFc q h) hFc (fun u227 t H1 locs ht hvm h_u227 hB hz1 hk1 hS => ?_)
            obtain ⟨za0_7_229, za0_8_230, za0_9_231, za0_10_232, za0_11_233, hF234, hF235, hP1, hK1, hD1⟩ := hB
            have hK1 := va_K.moved hvm.symm hK1
            have hJ9 := rgJ20_0050ee0 hP hD hk1 hFc (atH ht hP1) hD1
            clear hP hD hPc hKc hDc hFc hP1 hD1 hk1 hz1
            obtain ⟨hP, hD⟩ := hJ9
            clear hK1
            generalize H1 = H at hP hS ⊢
            refine W.widen (k := 0) (n := 0) (Nat.le_of_ble_eq_true rfl) (Nat.le_of_ble_eq_true rfl) ?_
            refine lv_iload_n hx hb dX9_lineHere_187 rfl (lv_at hl 1 rfl) ?_
            refine lv_if_ne (tgt := 198) hx hb dX9_lineHere_188 (by decide) (fun c188_236 => ?_) (fun c188_236 => by exfalso; exact absurd c188_236 (by decide))
            refine lv_iload_n hx hb dX9_lineHere_198 rfl (lv_at hl 1 rfl) ?_
            refine lv_iconst (v := 1) hx hb dX9_lineHere_199 (by decide) ?_
            refine lv_icmp_ne (tgt := 210) hx hb dX9_lineHere_200 (by decide) (fun c200_237 => by exfalso; exact absurd c200_237 (by decide)) (fun c200_237 => ?_)
            refine lv_aload_n hx hb dX9_lineHere_203 rfl (lv_at hl 2 rfl) ?_
            have hPc := (rgP20_877592a hP)
            have hKc := (rgK19_d86256b hK)
            have hDc := (rgD20_f8d2fc6 hD)
            have hFc := freeW hDc hS hA
            refine va_calli (va_runV (As := []) (rest := []) ⟨hx, hb, hml, hown, hts⟩ (k_X9_depositLine l dC dI g H.size (a0) (a0_0) (a0_1) (a0_2) (a0_3) (a0_4) (a0_5) (a0_6) (za0_7_229) (za0_8_230) (za0_9_231) (za0_10_232) (za0_11_233) (za0_12_222) (za0_13_223) (a0_14) (a0_15) (a0_16) (a0_17) (a0_18) (a0_19) (a0_20) (a0_21) (a0_22) (a0_23) (a0_24) (a0_25) (a0_26) (a0_27) (a0_28) (a0_29) (a0_30) (a0_31) (a0_32) (a0_33) (a0_34) (a0_35) (a0_36) (a0_37) (a0_38) (a0_39) (a0_40) (a0_41) (a0_42) (a0_43) (a0_4_c) (a0_4_f) (a0_18_c) (a0_18_f) (a0_19_c) (a0_19_f) (a0_20_c) (a0_20_f) (a0_22_c) (a0_22_f) (a0_25_c) (a0_25_f) (a0_26_c) (a0_26_f) (a0_27_c) (a0_27_f) (by omega) (by omega) (by omega) (by omega) (by omega) (by omega) (by omega) h_a0_18_f h_a0_19_f h_a0_20_f (by omega) (by omega)) (cwV 0 hts (gwV qw_585 qw_586 qw_587 qw_386 qw_584) rfl rfl rfl (by decide +kernel) ⟨Nat.le_of_ble_eq_true rfl, Nat.le_of_ble_eq_true rfl⟩) ⟨fun a U g9 mk q => ⟨q.1, q.2.1, q.2.2.1, va_K.moved (u := U) (U := U.calling g9 mk a) (Vm.Alike.refl U.vm) q.2.2.2.1, q.2.2.2.2.1, Ev.bl q.2.2.2.2.2⟩, va_recv hK hP (ci := 8) (q0 := 0) rfl rgL20_92b1330, fun U hU hW => ⟨rfl, by rw [hU], atB hU hPc, va_K.moved hW.alike hKc, hDc.weaken (fun _ _ _ _ => trivial), hE.go hS hFc hU hW⟩⟩ rfl rfl hl.1 rfl (lv_room (Nat.le_of_ble_eq_true rfl)) dX9_lineHere_204 ⟨Nat.le_of_ble_eq_true rfl, Nat.le_of_ble_eq_true rfl⟩) hS (fun q _ h => hFc q h) hFc (fun r239 u238 t H1 locs ht hvm h_u238 hB hz1 hk1 hS => ?_)
            obtain ⟨za0_7_240, za0_8_241, za0_9_242, za0_10_243, za0_11_244, za0_12_245, za0_13_246, za0_14_247, za0_15_248, za0_16_249, za0_36_250, za0_19_f_251, za0_25_f_252, za0_26_f_253, hF254, hF255, hF256, hF257, hF258, hP1, hK1, hD1⟩ := hB
            have hK1 := va_K.moved hvm.symm hK1
            have hJ9 := rgJ20_6743f9c hP hD hk1 hFc (atH ht hP1) hD1
            clear hP hD hPc hKc hDc hFc hP1 hD1 hk1 hz1
            obtain ⟨hP, hD⟩ := hJ9
            clear hK1
            generalize H1 = H at hP hS ⊢
            refine W.widen (k := 0) (n := 0) (Nat.le_of_ble_eq_true rfl) (Nat.le_of_ble_eq_true rfl) ?_
            have h_r239 := congrArg Int32.toInt h_u238
            have hz_r239 : r239 = 0 ∨ r239 = 1 := h_u238 ▸ hF257
            have b_r239 := z01 hz_r239
            refine lv_goto (tgt := 226) hx hb dX9_lineHere_207 (by decide) ?_
            refine lv_istore_n (lv' := [(3, .int r239), (2, .int 1), (1, .int 1), (0, .ref a0)]) hx hb dX9_lineHere_226 rfl hl (by decide) rfl (fun ls hl => ?_)
            refine lv_iload_n hx hb dX9_lineHere_227 rfl (lv_at hl 0 rfl) ?_
            refine lv_if_eq (tgt := 252) hx hb dX9_lineHere_228 (by decide) (fun c228_259 => ?_) (fun c228_259 => ?_)
            · have c228_259 : r239.toInt = 0 := (cv_eq rfl (by decide)).mp c228_259
              refine lv_iconst (v := 0) hx hb dX9_lineHere_252 (by decide) ?_
              have qc0 : (0 : Int32).toInt = 0 := by decide
              refine W.widen (k := 0) (n := 0) (Nat.le_of_ble_eq_true rfl) (Nat.le_of_ble_eq_true rfl) ?_
              have hP9 := hP
              have hD9 := hD
              have hK9 := (rgK19_5d0c76c hK)
              have hf9_0 : (0 ≤ za0_7_240.toInt ∧ za0_7_240.toInt ≤ 1000) := by omega
              have hf9_1 : (0 ≤ za0_8_241.toInt ∧ za0_8_241.toInt ≤ 1000) := by omega
              have hf9_2 : ((-1) ≤ a0_37.toInt ∧ a0_37.toInt ≤ 23) := by omega
              have hf9_3 : vr 0 8 a0_18_f := h_a0_18_f
              have hf9_4 : vr 0 4 za0_19_f_251 := hF256
              have hf9_5 : vr 0 24 a0_20_f := h_a0_20_f
              have hf9_6 : vr 0 12 a0_21_f := h_a0_21_f
              have hf9_7 : ((0 : Int32) = 0 ∨ (0 : Int32) = 1) := (by decide)
              have hf9_8 : ((0 : Int32).toInt = 1 → (a0_18_f a0_17.toNatClampNeg).toInt + (za0_19_f_251 a0_17.toNatClampNeg).toInt + (a0_20_f a0_17.toNatClampNeg).toInt + (a0_21_f a0_17.toNatClampNeg).toInt = (a0_18_f a0_17.toNatClampNeg).toInt + (a0_19_f a0_17.toNatClampNeg).toInt + (a0_20_f a0_17.toNatClampNeg).toInt + (a0_21_f a0_17.toNatClampNeg).toInt + 1) := by omega
              have hf9_9 : (KP 1 a0_20_f a0_20_f) := by first | exact KP.rf | assumption
              have hf9_10 : (KP 1 a0_21_f a0_21_f) := by first | exact KP.rf | assumption
              have hf9_11 : (KP 12 a0_32_f a0_32_f) := by first | exact KP.rf | assumption
              have hf9_12 : (KP 12 a0_33_f a0_33_f) := by first | exact KP.rf | assumption
              have hf9_13 : (PTOk a0_28_f (a0_20_f a0_17.toNatClampNeg).toInt) := by assumption
              have hf9_14 : (WOk a0_32_f a0_33_f 12 (a0_21_f a0_17.toNatClampNeg).toInt) := by assumption
              exact W.zret (v := 0) hx hb hr rfl (fun t ht hW => ⟨⟨0, 0, rfl, rfl, za0_7_240, za0_8_241, za0_9_242, za0_10_243, za0_11_244, za0_12_245, za0_13_246, za0_14_247, za0_15_248, za0_16_249, za0_36_250, a0_37, a0_18_f, za0_19_f_251, a0_20_f, a0_21_f, a0_22_f, a0_23_f, a0_24_f, za0_25_f_252, za0_26_f_253, a0_27_f, a0_28_f, a0_29_f, a0_30_f, a0_31_f, a0_32_f, a0_33_f, a0_34_f, a0_35_f, hf9_0, hf9_1, hf9_2, hf9_3, hf9_4, hf9_5, hf9_6, hf9_7, hf9_8, hf9_9, hf9_10, hf9_11, hf9_12, hf9_13, hf9_14, atB ht hP9, va_K.moved hW.alike hK9, hD9⟩, hS.F ht⟩) hS.2.2 dX9_lineHere_253
            · have c228_259 : ¬ (r239.toInt = 0) := mt (cv_eq rfl (by decide)).mpr c228_259
              refine lv_aload_n hx hb dX9_lineHere_231 rfl (lv_at hl 3 rfl) ?_
              refine lv_aload_n hx hb dX9_lineHere_232 rfl (lv_at hl 3 rfl) ?_
              refine va_get (D := (dC, dI)) (ci := 8) (v := .int za0_9_242) (C := RX9) (T := TX9) (N := 44) hx hb hts inlX9 hown hK hP 0 rgL20_92b1330 rfl 9 (by decide) (hts (.fieldLink RX9 160 "ClosedUntilModel" "token" "I") qw_421) (fun _ h9 => h9) rfl dX9_lineHere_233 ?_
              refine lv_iconst (v := 3) hx hb dX9_lineHere_236 (by decide) ?_
              refine lv_icmp_ne (tgt := 244) hx hb dX9_lineHere_237 (by decide) (fun c237_260 => ?_) (fun c237_260 => ?_)
              · have c237_260 : ¬ (za0_9_242.toInt = 3) := mt (cv_eq rfl (by decide)).mpr c237_260
                refine lv_iconst (v := 0) hx hb dX9_lineHere_244 (by decide) ?_
                refine lv_iconst (v := 1) hx hb dX9_lineHere_245 (by decide) ?_
                have qc0 : (0 : Int32).toInt = 0 := by decide
                have qc1 : (1 : Int32).toInt = 1 := by decide
                have hPc := (rgP20_580fa52 hP)
                have hKc := (rgK19_5d0c76c hK)
                have hDc := (rgD20_ec33658 hD)
                have hFc := freeW hDc hS hA
                refine va_calli (va_runV (As := [.int 0, .int 1]) (rest := []) ⟨hx, hb, hml, hown, hts⟩ (k_X9_must l dC dI g H.size (a0) (0) (1) (a0_0) (a0_1) (a0_2) (a0_3) (a0_4) (a0_5) (a0_6) (za0_7_240) (za0_8_241) (za0_9_242) (za0_10_243) (za0_11_244) (za0_12_245) (za0_13_246) (za0_14_247) (za0_15_248) (za0_16_249) (a0_17) (a0_18) (a0_19) (a0_20) (a0_21) (a0_22) (a0_23) (a0_24) (a0_25) (a0_26) (a0_27) (a0_28) (a0_29) (a0_30) (a0_31) (a0_32) (a0_33) (a0_34) (a0_35) (za0_36_250) (a0_37) (a0_38) (a0_39) (a0_40) (a0_41) (a0_42) (a0_43) (by omega) (by omega) (by omega) (by omega) (by omega) (by omega) (by omega) (by omega)) (cwV 2 hts (gwV qw_472 qw_473 qw_474 qw_386 qw_471) rfl rfl rfl (by decide +kernel) ⟨Nat.le_of_ble_eq_true rfl, Nat.le_of_ble_eq_true rfl⟩) ⟨fun a U g9 mk q => ⟨q.1, q.2.1, q.2.2.1, va_K.moved (u := U) (U := U.calling g9 mk a) (Vm.Alike.refl U.vm) q.2.2.2.1, q.2.2.2.2.1, Ev.bl q.2.2.2.2.2⟩, va_recv hK hP (ci := 8) (q0 := 0) rfl rgL20_92b1330, fun U hU hW => ⟨rfl, by rw [hU], atB hU hPc, va_K.moved hW.alike hKc, hDc.weaken (fun _ _ _ _ => trivial), hE.go hS hFc hU hW⟩⟩ rfl rfl hl.1 rfl (lv_room (Nat.le_of_ble_eq_true rfl)) dX9_lineHere_246 ⟨Nat.le_of_ble_eq_true rfl, Nat.le_of_ble_eq_true rfl⟩) hS (fun q _ h => hFc q h) hFc (fun r262 u261 t H1 locs ht hvm h_u261 hB hz1 hk1 hS => ?_)
                obtain ⟨za0_12_263, za0_13_264, hF265, hF266, hP1, hK1, hD1⟩ := hB
                have hK1 := va_K.moved hvm.symm hK1
                have hJ9 := rgJ20_b6a011a hP hD hk1 hFc (atH ht hP1) hD1
                clear hP hD hPc hKc hDc hFc hP1 hD1 hk1 hz1
                obtain ⟨hP, hD⟩ := hJ9
                clear hK1
                generalize H1 = H at hP hS ⊢
                refine W.widen (k := 0) (n := 0) (Nat.le_of_ble_eq_true rfl) (Nat.le_of_ble_eq_true rfl) ?_
                have h_r262 := congrArg Int32.toInt h_u261
                have hz_r262 : r262 = 0 ∨ r262 = 1 := h_u261 ▸ hF265
                have b_r262 := z01 hz_r262
                refine cst (v := 0) (Int32.toInt_inj.mp (by rw [show (0 : Int32).toInt = 0 by decide]; omega)) ?_
                refine lv_if_ne (tgt := 254) hx hb dX9_lineHere_249 (by decide) (fun c249_267 => by exfalso; exact absurd c249_267 (by decide)) (fun c249_267 => ?_)
                refine lv_iconst (v := 0) hx hb dX9_lineHere_252 (by decide) ?_
                have qc0 : (0 : Int32).toInt = 0 := by decide
                refine W.widen (k := 0) (n := 0) (Nat.le_of_ble_eq_true rfl) (Nat.le_of_ble_eq_true rfl) ?_
                have hP9 := hP
                have hD9 := hD
                have hK9 := (rgK19_5d0c76c hK)
                have hf9_0 : (0 ≤ za0_7_240.toInt ∧ za0_7_240.toInt ≤ 1000) := by omega
                have hf9_1 : (0 ≤ za0_8_241.toInt ∧ za0_8_241.toInt ≤ 1000) := by omega
                have hf9_2 : ((-1) ≤ a0_37.toInt ∧ a0_37.toInt ≤ 23) := by omega
                have hf9_3 : vr 0 8 a0_18_f := h_a0_18_f
                have hf9_4 : vr 0 4 za0_19_f_251 := hF256
                have hf9_5 : vr 0 24 a0_20_f := h_a0_20_f
                have hf9_6 : vr 0 12 a0_21_f := h_a0_21_f
                have hf9_7 : ((0 : Int32) = 0 ∨ (0 : Int32) = 1) := (by decide)
                have hf9_8 : ((0 : Int32).toInt = 1 → (a0_18_f a0_17.toNatClampNeg).toInt + (za0_19_f_251 a0_17.toNatClampNeg).toInt + (a0_20_f a0_17.toNatClampNeg).toInt + (a0_21_f a0_17.toNatClampNeg).toInt = (a0_18_f a0_17.toNatClampNeg).toInt + (a0_19_f a0_17.toNatClampNeg).toInt + (a0_20_f a0_17.toNatClampNeg).toInt + (a0_21_f a0_17.toNatClampNeg).toInt + 1) := by omega
                have hf9_9 : (KP 1 a0_20_f a0_20_f) := by first | exact KP.rf | assumption
                have hf9_10 : (KP 1 a0_21_f a0_21_f) := by first | exact KP.rf | assumption
                have hf9_11 : (KP 12 a0_32_f a0_32_f) := by first | exact KP.rf | assumption
                have hf9_12 : (KP 12 a0_33_f a0_33_f) := by first | exact KP.rf | assumption
                have hf9_13 : (PTOk a0_28_f (a0_20_f a0_17.toNatClampNeg).toInt) := by assumption
                have hf9_14 : (WOk a0_32_f a0_33_f 12 (a0_21_f a0_17.toNatClampNeg).toInt) := by assumption
                exact W.zret (v := 0) hx hb hr rfl (fun t ht hW => ⟨⟨0, 0, rfl, rfl, za0_7_240, za0_8_241, za0_9_242, za0_10_243, za0_11_244, za0_12_263, za0_13_264, za0_14_247, za0_15_248, za0_16_249, za0_36_250, a0_37, a0_18_f, za0_19_f_251, a0_20_f, a0_21_f, a0_22_f, a0_23_f, a0_24_f, za0_25_f_252, za0_26_f_253, a0_27_f, a0_28_f, a0_29_f, a0_30_f, a0_31_f, a0_32_f, a0_33_f, a0_34_f, a0_35_f, hf9_0, hf9_1, hf9_2, hf9_3, hf9_4, hf9_5, hf9_6, hf9_7, hf9_8, hf9_9, hf9_10, hf9_11, hf9_12, hf9_13, hf9_14, atB ht hP9, va_K.moved hW.alike hK9, hD9⟩, hS.F ht⟩) hS.2.2 dX9_lineHere_253
              · have c237_260 : za0_9_242.toInt = 3 := (cv_eq rfl (by decide)).mp c237_260
                refine lv_iconst (v := 1) hx hb dX9_lineHere_240 (by decide) ?_
                refine lv_goto (tgt := 245) hx hb dX9_lineHere_241 (by decide) ?_
                refine lv_iconst (v := 1) hx hb dX9_lineHere_245 (by decide) ?_
                have qc1 : (1 : Int32).toInt = 1 := by decide
                have hPc := (rgP20_580fa52 hP)
                have hKc := (rgK19_5d0c76c hK)
                have hDc := (rgD20_ec33658 hD)
                have hFc := freeW hDc hS hA
                refine va_calli (va_runV (As := [.int 1, .int 1]) (rest := []) ⟨hx, hb, hml, hown, hts⟩ (k_X9_must l dC dI g H.size (a0) (1) (1) (a0_0) (a0_1) (a0_2) (a0_3) (a0_4) (a0_5) (a0_6) (za0_7_240) (za0_8_241) (za0_9_242) (za0_10_243) (za0_11_244) (za0_12_245) (za0_13_246) (za0_14_247) (za0_15_248) (za0_16_249) (a0_17) (a0_18) (a0_19) (a0_20) (a0_21) (a0_22) (a0_23) (a0_24) (a0_25) (a0_26) (a0_27) (a0_28) (a0_29) (a0_30) (a0_31) (a0_32) (a0_33) (a0_34) (a0_35) (za0_36_250) (a0_37) (a0_38) (a0_39) (a0_40) (a0_41) (a0_42) (a0_43) (by omega) (by omega) (by omega) (by omega) (by omega) (by omega) (by omega) (by omega)) (cwV 2 hts (gwV qw_472 qw_473 qw_474 qw_386 qw_471) rfl rfl rfl (by decide +kernel) ⟨Nat.le_of_ble_eq_true rfl, Nat.le_of_ble_eq_true rfl⟩) ⟨fun a U g9 mk q => ⟨q.1, q.2.1, q.2.2.1, va_K.moved (u := U) (U := U.calling g9 mk a) (Vm.Alike.refl U.vm) q.2.2.2.1, q.2.2.2.2.1, Ev.bl q.2.2.2.2.2⟩, va_recv hK hP (ci := 8) (q0 := 0) rfl rgL20_92b1330, fun U hU hW => ⟨rfl, by rw [hU], atB hU hPc, va_K.moved hW.alike hKc, hDc.weaken (fun _ _ _ _ => trivial), hE.go hS hFc hU hW⟩⟩ rfl rfl hl.1 rfl (lv_room (Nat.le_of_ble_eq_true rfl)) dX9_lineHere_246 ⟨Nat.le_of_ble_eq_true rfl, Nat.le_of_ble_eq_true rfl⟩) hS (fun q _ h => hFc q h) hFc (fun r269 u268 t H1 locs ht hvm h_u268 hB hz1 hk1 hS => ?_)
                obtain ⟨za0_12_270, za0_13_271, hF272, hF273, hP1, hK1, hD1⟩ := hB
                have hK1 := va_K.moved hvm.symm hK1
                have hJ9 := rgJ20_b6a011a hP hD hk1 hFc (atH ht hP1) hD1
                clear hP hD hPc hKc hDc hFc hP1 hD1 hk1 hz1
                obtain ⟨hP, hD⟩ := hJ9
                clear hK1
                generalize H1 = H at hP hS ⊢
                refine W.widen (k := 0) (n := 0) (Nat.le_of_ble_eq_true rfl) (Nat.le_of_ble_eq_true rfl) ?_
                have h_r269 := congrArg Int32.toInt h_u268
                have hz_r269 : r269 = 0 ∨ r269 = 1 := h_u268 ▸ hF272
                have b_r269 := z01 hz_r269
                refine lv_if_ne (tgt := 254) hx hb dX9_lineHere_249 (by decide) (fun c249_274 => ?_) (fun c249_274 => ?_)
                · have c249_274 : ¬ (r269.toInt = 0) := mt (cv_eq rfl (by decide)).mpr c249_274
                  refine lv_aload_n hx hb dX9_lineHere_254 rfl (lv_at hl 3 rfl) ?_
                  have hPc := (rgP20_5ec38fa hP)
                  have hKc := (rgK19_4f62bf3 hK)
                  have hDc := (rgD20_1e423f8 hD)
                  have hFc := freeW hDc hS hA
                  refine va_callv (va_runV (As := []) (rest := []) ⟨hx, hb, hml, hown, hts⟩ (k_X9_steps l dC dI g H.size (a0) (a0_0) (a0_1) (a0_2) (a0_3) (a0_4) (a0_5) (a0_6) (za0_7_240) (za0_8_241) (za0_9_242) (za0_10_243) (za0_11_244) (za0_12_270) (za0_13_271) (za0_14_247) (za0_15_248) (za0_16_249) (a0_17) (a0_18) (a0_19) (a0_20) (a0_21) (a0_22) (a0_23) (a0_24) (a0_25) (a0_26) (a0_27) (a0_28) (a0_29) (a0_30) (a0_31) (a0_32) (a0_33) (a0_34) (a0_35) (za0_36_250) (a0_37) (a0_38) (a0_39) (a0_40) (a0_41) (a0_42) (a0_43) (a0_4_c) (a0_4_f) (by omega) (by omega) (by omega) (by omega) (by omega) (by omega) (by omega)) (cwV 0 hts (gwV qw_468 qw_469 qw_470 qw_386 qw_467) rfl rfl rfl (by decide +kernel) ⟨Nat.le_of_ble_eq_true rfl, Nat.le_of_ble_eq_true rfl⟩) ⟨fun a U g9 mk q => ⟨q.1, q.2.1, q.2.2.1, va_K.moved (u := U) (U := U.calling g9 mk a) (Vm.Alike.refl U.vm) q.2.2.2.1, q.2.2.2.2.1, Ev.bl q.2.2.2.2.2⟩, va_recv hK hP (ci := 8) (q0 := 0) rfl rgL20_92b1330, fun U hU hW => ⟨rfl, by rw [hU], atB hU hPc, va_K.moved hW.alike hKc, hDc.weaken (fun _ _ _ _ => trivial), hE.go hS hFc hU hW⟩⟩ rfl rfl hl.1 rfl (lv_room (Nat.le_of_ble_eq_true rfl)) dX9_lineHere_255 ⟨Nat.le_of_ble_eq_true rfl, Nat.le_of_ble_eq_true rfl⟩) hS (fun q _ h => hFc q h) hFc (fun u275 t H1 locs ht hvm h_u275 hB hz1 hk1 hS => ?_)
                  obtain ⟨za0_7_277, za0_8_278, za0_9_279, za0_10_280, za0_11_281, hF282, hF283, hP1, hK1, hD1⟩ := hB
                  have hK1 := va_K.moved hvm.symm hK1
                  have hJ9 := rgJ20_0050ee0 hP hD hk1 hFc (atH ht hP1) hD1
                  clear hP hD hPc hKc hDc hFc hP1 hD1 hk1 hz1
                  obtain ⟨hP, hD⟩ := hJ9
                  clear hK1
                  generalize H1 = H at hP hS ⊢
                  refine W.widen (k := 0) (n := 0) (Nat.le_of_ble_eq_true rfl) (Nat.le_of_ble_eq_true rfl) ?_
                  refine lv_iconst (v := 1) hx hb dX9_lineHere_258 (by decide) ?_
                  have qc1 : (1 : Int32).toInt = 1 := by decide
                  refine W.widen (k := 0) (n := 0) (Nat.le_of_ble_eq_true rfl) (Nat.le_of_ble_eq_true rfl) ?_
                  have hP9 := hP
                  have hD9 := hD
                  have hK9 := (rgK19_5d0c76c hK)
                  have hf9_0 : (0 ≤ za0_7_277.toInt ∧ za0_7_277.toInt ≤ 1000) := by omega
                  have hf9_1 : (0 ≤ za0_8_278.toInt ∧ za0_8_278.toInt ≤ 1000) := by omega
                  have hf9_2 : ((-1) ≤ a0_37.toInt ∧ a0_37.toInt ≤ 23) := by omega
                  have hf9_3 : vr 0 8 a0_18_f := h_a0_18_f
                  have hf9_4 : vr 0 4 za0_19_f_251 := hF256
                  have hf9_5 : vr 0 24 a0_20_f := h_a0_20_f
                  have hf9_6 : vr 0 12 a0_21_f := h_a0_21_f
                  have hf9_7 : ((1 : Int32) = 0 ∨ (1 : Int32) = 1) := (by decide)
                  have hf9_8 : ((1 : Int32).toInt = 1 → (a0_18_f a0_17.toNatClampNeg).toInt + (za0_19_f_251 a0_17.toNatClampNeg).toInt + (a0_20_f a0_17.toNatClampNeg).toInt + (a0_21_f a0_17.toNatClampNeg).toInt = (a0_18_f a0_17.toNatClampNeg).toInt + (a0_19_f a0_17.toNatClampNeg).toInt + (a0_20_f a0_17.toNatClampNeg).toInt + (a0_21_f a0_17.toNatClampNeg).toInt + 1) := by omega
                  have hf9_9 : (KP 1 a0_20_f a0_20_f) := by first | exact KP.rf | assumption
                  have hf9_10 : (KP 1 a0_21_f a0_21_f) := by first | exact KP.rf | assumption
                  have hf9_11 : (KP 12 a0_32_f a0_32_f) := by first | exact KP.rf | assumption
                  have hf9_12 : (KP 12 a0_33_f a0_33_f) := by first | exact KP.rf | assumption
                  have hf9_13 : (PTOk a0_28_f (a0_20_f a0_17.toNatClampNeg).toInt) := by assumption
                  have hf9_14 : (WOk a0_32_f a0_33_f 12 (a0_21_f a0_17.toNatClampNeg).toInt) := by assumption
                  exact W.zret (v := 1) hx hb hr rfl (fun t ht hW => ⟨⟨1, 1, rfl, rfl, za0_7_277, za0_8_278, za0_9_279, za0_10_280, za0_11_281, za0_12_270, za0_13_271, za0_14_247, za0_15_248, za0_16_249, za0_36_250, a0_37, a0_18_f, za0_19_f_251, a0_20_f, a0_21_f, a0_22_f, a0_23_f, a0_24_f, za0_25_f_252, za0_26_f_253, a0_27_f, a0_28_f, a0_29_f, a0_30_f, a0_31_f, a0_32_f, a0_33_f, a0_34_f, a0_35_f, hf9_0, hf9_1, hf9_2, hf9_3, hf9_4, hf9_5, hf9_6, hf9_7, hf9_8, hf9_9, hf9_10, hf9_11, hf9_12, hf9_13, hf9_14, atB ht hP9, va_K.moved hW.alike hK9, hD9⟩, hS.F ht⟩) hS.2.2 dX9_lineHere_259
                · have c249_274 : r269.toInt = 0 := (cv_eq rfl (by decide)).mp c249_274
                  refine lv_iconst (v := 0) hx hb dX9_lineHere_252 (by decide) ?_
                  have qc0 : (0 : Int32).toInt = 0 := by decide
                  refine W.widen (k := 0) (n := 0) (Nat.le_of_ble_eq_true rfl) (Nat.le_of_ble_eq_true rfl) ?_
                  have hP9 := hP
                  have hD9 := hD
                  have hK9 := (rgK19_5d0c76c hK)
                  have hf9_0 : (0 ≤ za0_7_240.toInt ∧ za0_7_240.toInt ≤ 1000) := by omega
                  have hf9_1 : (0 ≤ za0_8_241.toInt ∧ za0_8_241.toInt ≤ 1000) := by omega
                  have hf9_2 : ((-1) ≤ a0_37.toInt ∧ a0_37.toInt ≤ 23) := by omega
                  have hf9_3 : vr 0 8 a0_18_f := h_a0_18_f
                  have hf9_4 : vr 0 4 za0_19_f_251 := hF256
                  have hf9_5 : vr 0 24 a0_20_f := h_a0_20_f
                  have hf9_6 : vr 0 12 a0_21_f := h_a0_21_f
                  have hf9_7 : ((0 : Int32) = 0 ∨ (0 : Int32) = 1) := (by decide)
                  have hf9_8 : ((0 : Int32).toInt = 1 → (a0_18_f a0_17.toNatClampNeg).toInt + (za0_19_f_251 a0_17.toNatClampNeg).toInt + (a0_20_f a0_17.toNatClampNeg).toInt + (a0_21_f a0_17.toNatClampNeg).toInt = (a0_18_f a0_17.toNatClampNeg).toInt + (a0_19_f a0_17.toNatClampNeg).toInt + (a0_20_f a0_17.toNatClampNeg).toInt + (a0_21_f a0_17.toNatClampNeg).toInt + 1) := by omega
                  have hf9_9 : (KP 1 a0_20_f a0_20_f) := by first | exact KP.rf | assumption
                  have hf9_10 : (KP 1 a0_21_f a0_21_f) := by first | exact KP.rf | assumption
                  have hf9_11 : (KP 12 a0_32_f a0_32_f) := by first | exact KP.rf | assumption
                  have hf9_12 : (KP 12 a0_33_f a0_33_f) := by first | exact KP.rf | assumption
                  have hf9_13 : (PTOk a0_28_f (a0_20_f a0_17.toNatClampNeg).toInt) := by assumption
                  have hf9_14 : (WOk a0_32_f a0_33_f 12 (a0_21_f a0_17.toNatClampNeg).toInt) := by assumption
                  exact W.zret (v := 0) hx hb hr rfl (fun t ht hW => ⟨⟨0, 0, rfl, rfl, za0_7_240, za0_8_241, za0_9_242, za0_10_243, za0_11_244, za0_12_270, za0_13_271, za0_14_247, za0_15_248, za0_16_249, za0_36_250, a0_37, a0_18_f, za0_19_f_251, a0_20_f, a0_21_f, a0_22_f, a0_23_f, a0_24_f, za0_25_f_252, za0_26_f_253, a0_27_f, a0_28_f, a0_29_f, a0_30_f, a0_31_f, a0_32_f, a0_33_f, a0_34_f, a0_35_f, hf9_0, hf9_1, hf9_2, hf9_3, hf9_4, hf9_5, hf9_6, hf9_7, hf9_8, hf9_9, hf9_10, hf9_11, hf9_12, hf9_13, hf9_14, atB ht hP9, va_K.moved hW.alike hK9, hD9⟩, hS.F ht⟩) hS.2.2 dX9_lineHere_253
          · have c178_226 : r221.toInt = 0 := (cv_eq rfl (by decide)).mp c178_226
            refine lv_iconst (v := 0) hx hb dX9_lineHere_181 (by decide) ?_
            have qc0 : (0 : Int32).toInt = 0 := by decide
            refine W.widen (k := 0) (n := 0) (Nat.le_of_ble_eq_true rfl) (Nat.le_of_ble_eq_true rfl) ?_
            have hP9 := hP
            have hD9 := hD
            have hK9 := (rgK19_5d0c76c hK)
            have hf9_0 : (0 ≤ a0_7.toInt ∧ a0_7.toInt ≤ 1000) := by omega
            have hf9_1 : (0 ≤ a0_8.toInt ∧ a0_8.toInt ≤ 1000) := by omega
            have hf9_2 : ((-1) ≤ a0_37.toInt ∧ a0_37.toInt ≤ 23) := by omega
            have hf9_3 : vr 0 8 a0_18_f := h_a0_18_f
            have hf9_4 : vr 0 4 a0_19_f := h_a0_19_f
            have hf9_5 : vr 0 24 a0_20_f := h_a0_20_f
            have hf9_6 : vr 0 12 a0_21_f := h_a0_21_f
            have hf9_7 : ((0 : Int32) = 0 ∨ (0 : Int32) = 1) := (by decide)
            have hf9_8 : ((0 : Int32).toInt = 1 → (a0_18_f a0_17.toNatClampNeg).toInt + (a0_19_f a0_17.toNatClampNeg).toInt + (a0_20_f a0_17.toNatClampNeg).toInt + (a0_21_f a0_17.toNatClampNeg).toInt = (a0_18_f a0_17.toNatClampNeg).toInt + (a0_19_f a0_17.toNatClampNeg).toInt + (a0_20_f a0_17.toNatClampNeg).toInt + (a0_21_f a0_17.toNatClampNeg).toInt + 1) := by omega
            have hf9_9 : (KP 1 a0_20_f a0_20_f) := by first | exact KP.rf | assumption
            have hf9_10 : (KP 1 a0_21_f a0_21_f) := by first | exact KP.rf | assumption
            have hf9_11 : (KP 12 a0_32_f a0_32_f) := by first | exact KP.rf | assumption
            have hf9_12 : (KP 12 a0_33_f a0_33_f) := by first | exact KP.rf | assumption
            have hf9_13 : (PTOk a0_28_f (a0_20_f a0_17.toNatClampNeg).toInt) := by assumption
            have hf9_14 : (WOk a0_32_f a0_33_f 12 (a0_21_f a0_17.toNatClampNeg).toInt) := by assumption
            exact W.zret (v := 0) hx hb hr rfl (fun t ht hW => ⟨⟨0, 0, rfl, rfl, a0_7, a0_8, a0_9, a0_10, a0_11, za0_12_222, za0_13_223, a0_14, a0_15, a0_16, a0_36, a0_37, a0_18_f, a0_19_f, a0_20_f, a0_21_f, a0_22_f, a0_23_f, a0_24_f, a0_25_f, a0_26_f, a0_27_f, a0_28_f, a0_29_f, a0_30_f, a0_31_f, a0_32_f, a0_33_f, a0_34_f, a0_35_f, hf9_0, hf9_1, hf9_2, hf9_3, hf9_4, hf9_5, hf9_6, hf9_7, hf9_8, hf9_9, hf9_10, hf9_11, hf9_12, hf9_13, hf9_14, atB ht hP9, va_K.moved hW.alike hK9, hD9⟩, hS.F ht⟩) hS.2.2 dX9_lineHere_182
      · have c68_208 : r203.toInt = 0 := (cv_eq rfl (by decide)).mp c68_208
        refine lv_iconst (v := 0) hx hb dX9_lineHere_71 (by decide) ?_
        have qc0 : (0 : Int32).toInt = 0 := by decide
        refine W.widen (k := 0) (n := 0) (Nat.le_of_ble_eq_true rfl) (Nat.le_of_ble_eq_true rfl) ?_
        have hP9 := hP
        have hD9 := hD
        have hK9 := (rgK19_5d0c76c hK)
        have hf9_0 : (0 ≤ a0_7.toInt ∧ a0_7.toInt ≤ 1000) := by omega
        have hf9_1 : (0 ≤ a0_8.toInt ∧ a0_8.toInt ≤ 1000) := by omega
        have hf9_2 : ((-1) ≤ a0_37.toInt ∧ a0_37.toInt ≤ 23) := by omega
        have hf9_3 : vr 0 8 a0_18_f := h_a0_18_f
        have hf9_4 : vr 0 4 a0_19_f := h_a0_19_f
        have hf9_5 : vr 0 24 a0_20_f := h_a0_20_f
        have hf9_6 : vr 0 12 a0_21_f := h_a0_21_f
        have hf9_7 : ((0 : Int32) = 0 ∨ (0 : Int32) = 1) := (by decide)
        have hf9_8 : ((0 : Int32).toInt = 1 → (a0_18_f a0_17.toNatClampNeg).toInt + (a0_19_f a0_17.toNatClampNeg).toInt + (a0_20_f a0_17.toNatClampNeg).toInt + (a0_21_f a0_17.toNatClampNeg).toInt = (a0_18_f a0_17.toNatClampNeg).toInt + (a0_19_f a0_17.toNatClampNeg).toInt + (a0_20_f a0_17.toNatClampNeg).toInt + (a0_21_f a0_17.toNatClampNeg).toInt + 1) := by omega
        have hf9_9 : (KP 1 a0_20_f a0_20_f) := by first | exact KP.rf | assumption
        have hf9_10 : (KP 1 a0_21_f a0_21_f) := by first | exact KP.rf | assumption
        have hf9_11 : (KP 12 a0_32_f a0_32_f) := by first | exact KP.rf | assumption
        have hf9_12 : (KP 12 a0_33_f a0_33_f) := by first | exact KP.rf | assumption
        have hf9_13 : (PTOk a0_28_f (a0_20_f a0_17.toNatClampNeg).toInt) := by assumption
        have hf9_14 : (WOk a0_32_f a0_33_f 12 (a0_21_f a0_17.toNatClampNeg).toInt) := by assumption
        exact W.zret (v := 0) hx hb hr rfl (fun t ht hW => ⟨⟨0, 0, rfl, rfl, a0_7, a0_8, a0_9, a0_10, a0_11, za0_12_204, za0_13_205, a0_14, a0_15, a0_16, a0_36, a0_37, a0_18_f, a0_19_f, a0_20_f, a0_21_f, a0_22_f, a0_23_f, a0_24_f, a0_25_f, a0_26_f, a0_27_f, a0_28_f, a0_29_f, a0_30_f, a0_31_f, a0_32_f, a0_33_f, a0_34_f, a0_35_f, hf9_0, hf9_1, hf9_2, hf9_3, hf9_4, hf9_5, hf9_6, hf9_7, hf9_8, hf9_9, hf9_10, hf9_11, hf9_12, hf9_13, hf9_14, atB ht hP9, va_K.moved hW.alike hK9, hD9⟩, hS.F ht⟩) hS.2.2 dX9_lineHere_72
  · have c6_2 : ¬ (r1.toInt = 0) := mt (cv_eq rfl (by decide)).mpr c6_2
    refine lv_iconst (v := 0) hx hb dX9_lineHere_9 (by decide) ?_
    refine lv_goto (tgt := 53) hx hb dX9_lineHere_10 (by decide) ?_
    refine lv_istore_n (lv' := [(1, .int 0), (0, .ref a0)]) hx hb dX9_lineHere_53 rfl hl (by decide) rfl (fun ls hl => ?_)
    refine lv_aload_n hx hb dX9_lineHere_54 rfl (lv_at hl 1 rfl) ?_
    refine lv_iload_n hx hb dX9_lineHere_55 rfl (lv_at hl 0 rfl) ?_
    refine lv_if_lt (tgt := 63) hx hb dX9_lineHere_56 (by decide) (fun c56_284 => by exfalso; exact absurd c56_284 (by decide)) (fun c56_284 => ?_)
    refine lv_iconst (v := 1) hx hb dX9_lineHere_59 (by decide) ?_
    refine lv_goto (tgt := 64) hx hb dX9_lineHere_60 (by decide) ?_
    refine lv_iconst (v := 1) hx hb dX9_lineHere_64 (by decide) ?_
    have qc1 : (1 : Int32).toInt = 1 := by decide
    have hPc := (rgP20_580fa52 hP)
    have hKc := (rgK19_5d0c76c hK)
    have hDc := (rgD20_ec33658 hD)
    have hFc := freeW hDc hS hA
    refine va_calli (va_runV (As := [.int 1, .int 1]) (rest := []) ⟨hx, hb, hml, hown, hts⟩ (k_X9_must l dC dI g s.heap.size (a0) (1) (1) (a0_0) (a0_1) (a0_2) (a0_3) (a0_4) (a0_5) (a0_6) (a0_7) (a0_8) (a0_9) (a0_10) (a0_11) (a0_12) (a0_13) (a0_14) (a0_15) (a0_16) (a0_17) (a0_18) (a0_19) (a0_20) (a0_21) (a0_22) (a0_23) (a0_24) (a0_25) (a0_26) (a0_27) (a0_28) (a0_29) (a0_30) (a0_31) (a0_32) (a0_33) (a0_34) (a0_35) (a0_36) (a0_37) (a0_38) (a0_39) (a0_40) (a0_41) (a0_42) (a0_43) (by omega) (by omega) (by omega) (by omega) (by omega) (by omega) (by omega) (by omega)) (cwV 2 hts (gwV qw_472 qw_473 qw_474 qw_386 qw_471) rfl rfl rfl (by decide +kernel) ⟨Nat.le_of_ble_eq_true rfl, Nat.le_of_ble_eq_true rfl⟩) ⟨fun a U g9 mk q => ⟨q.1, q.2.1, q.2.2.1, va_K.moved (u := U) (U := U.calling g9 mk a) (Vm.Alike.refl U.vm) q.2.2.2.1, q.2.2.2.2.1, Ev.bl q.2.2.2.2.2⟩, va_recv hK hP (ci := 8) (q0 := 0) rfl rgL20_92b1330, fun U hU hW => ⟨rfl, by rw [hU], atB hU hPc, va_K.moved hW.alike hKc, hDc.weaken (fun _ _ _ _ => trivial), hE.go hS hFc hU hW⟩⟩ rfl rfl hl.1 rfl (lv_room (Nat.le_of_ble_eq_true rfl)) dX9_lineHere_65 ⟨Nat.le_of_ble_eq_true rfl, Nat.le_of_ble_eq_true rfl⟩) hS (fun q _ h => hFc q h) hFc (fun r286 u285 t H1 locs ht hvm h_u285 hB hz1 hk1 hS => ?_)
    obtain ⟨za0_12_287, za0_13_288, hF289, hF290, hP1, hK1, hD1⟩ := hB
    have hK1 := va_K.moved hvm.symm hK1
    have hJ9 := rgJ20_b6a011a hP hD hk1 hFc (atH ht hP1) hD1
    clear hP hD hPc hKc hDc hFc hP1 hD1 hk1 hz1
    obtain ⟨hP, hD⟩ := hJ9
    clear hK1
    generalize H1 = H at hP hS ⊢
    refine W.widen (k := 0) (n := 0) (Nat.le_of_ble_eq_true rfl) (Nat.le_of_ble_eq_true rfl) ?_
    have h_r286 := congrArg Int32.toInt h_u285
    have hz_r286 : r286 = 0 ∨ r286 = 1 := h_u285 ▸ hF289
    have b_r286 := z01 hz_r286
    refine lv_if_ne (tgt := 73) hx hb dX9_lineHere_68 (by decide) (fun c68_291 => ?_) (fun c68_291 => ?_)
    · have c68_291 : ¬ (r286.toInt = 0) := mt (cv_eq rfl (by decide)).mpr c68_291
      refine lv_iload_n hx hb dX9_lineHere_73 rfl (lv_at hl 0 rfl) ?_
      refine lv_if_ne (tgt := 99) hx hb dX9_lineHere_74 (by decide) (fun c74_292 => by exfalso; exact absurd c74_292 (by decide)) (fun c74_292 => ?_)
      refine lv_aload_n hx hb dX9_lineHere_77 rfl (lv_at hl 1 rfl) ?_
      refine va_get (D := (dC, dI)) (ci := 8) (v := .ref a0_18) (C := RX9) (T := TX9) (N := 44) hx hb hts inlX9 hown hK hP 0 rgL20_92b1330 rfl 18 (by decide) (hts (.fieldLink RX9 13 "ClosedUntilModel" "people" "[I") qw_434) (fun _ h9 => h9) rfl dX9_lineHere_78 ?_
      refine lv_aload_n hx hb dX9_lineHere_81 rfl (lv_at hl 1 rfl) ?_
      refine va_get (D := (dC, dI)) (ci := 8) (v := .int a0_17) (C := RX9) (T := TX9) (N := 44) hx hb hts inlX9 hown hK hP 0 rgL20_92b1330 rfl 17 (by decide) (hts (.fieldLink RX9 256 "ClosedUntilModel" "bench" "I") qw_435) (fun _ h9 => h9) rfl dX9_lineHere_82 ?_
      refine va_iald hx hb hK hP 2 1 rgL20_6a2a4dc rgT19_f3f1e30 (vinI (by omega) (by omega)) dX9_lineHere_85 ?_
      refine lv_topi (fun x293 e_x293 => ?_)
      have q_x293 := congrArg Int32.toInt e_x293
      have b_x293 : 0 ≤ x293.toInt ∧ x293.toInt ≤ 8 := vr_at (lo := 0) (hi := 8) (f := a0_18_f) h_a0_18_f e_x293
      refine lv_bipush (v := 8) hx hb dX9_lineHere_86 (by decide) ?_
      refine lv_icmp_ge (tgt := 95) hx hb dX9_lineHere_88 (by decide) (fun c88_294 => ?_) (fun c88_294 => ?_)
      · have c88_294 : 8 ≤ x293.toInt := (cv_le (by decide) rfl).mp c88_294
        refine lv_iconst (v := 0) hx hb dX9_lineHere_95 (by decide) ?_
        refine lv_goto (tgt := 171) hx hb dX9_lineHere_96 (by decide) ?_
        refine lv_istore_n (lv' := [(2, .int 0), (1, .int 0), (0, .ref a0)]) hx hb dX9_lineHere_171 rfl hl (by decide) rfl (fun ls hl => ?_)
        refine lv_aload_n hx hb dX9_lineHere_172 rfl (lv_at hl 2 rfl) ?_
        refine lv_iload_n hx hb dX9_lineHere_173 rfl (lv_at hl 0 rfl) ?_
        refine lv_iconst (v := 5) hx hb dX9_lineHere_174 (by decide) ?_
        have qc0 : (0 : Int32).toInt = 0 := by decide
        have qc5 : (5 : Int32).toInt = 5 := by decide
        have hPc := (rgP20_580fa52 hP)
        have hKc := (rgK19_5d0c76c hK)
        have hDc := (rgD20_ec33658 hD)
        have hFc := freeW hDc hS hA
        refine va_calli (va_runV (As := [.int 0, .int 5]) (rest := []) ⟨hx, hb, hml, hown, hts⟩ (k_X9_must l dC dI g H.size (a0) (0) (5) (a0_0) (a0_1) (a0_2) (a0_3) (a0_4) (a0_5) (a0_6) (a0_7) (a0_8) (a0_9) (a0_10) (a0_11) (za0_12_287) (za0_13_288) (a0_14) (a0_15) (a0_16) (a0_17) (a0_18) (a0_19) (a0_20) (a0_21) (a0_22) (a0_23) (a0_24) (a0_25) (a0_26) (a0_27) (a0_28) (a0_29) (a0_30) (a0_31) (a0_32) (a0_33) (a0_34) (a0_35) (a0_36) (a0_37) (a0_38) (a0_39) (a0_40) (a0_41) (a0_42) (a0_43) (by omega) (by omega) (by omega) (by omega) (by omega) (by omega) (by omega) (by omega)) (cwV 2 hts (gwV qw_472 qw_473 qw_474 qw_386 qw_471) rfl rfl rfl (by decide +kernel) ⟨Nat.le_of_ble_eq_true rfl, Nat.le_of_ble_eq_true rfl⟩) ⟨fun a U g9 mk q => ⟨q.1, q.2.1, q.2.2.1, va_K.moved (u := U) (U := U.calling g9 mk a) (Vm.Alike.refl U.vm) q.2.2.2.1, q.2.2.2.2.1, Ev.bl q.2.2.2.2.2⟩, va_recv hK hP (ci := 8) (q0 := 0) rfl rgL20_92b1330, fun U hU hW => ⟨rfl, by rw [hU], atB hU hPc, va_K.moved hW.alike hKc, hDc.weaken (fun _ _ _ _ => trivial), hE.go hS hFc hU hW⟩⟩ rfl rfl hl.1 rfl (lv_room (Nat.le_of_ble_eq_true rfl)) dX9_lineHere_175 ⟨Nat.le_of_ble_eq_true rfl, Nat.le_of_ble_eq_true rfl⟩) hS (fun q _ h => hFc q h) hFc (fun r296 u295 t H1 locs ht hvm h_u295 hB hz1 hk1 hS => ?_)
        obtain ⟨za0_12_297, za0_13_298, hF299, hF300, hP1, hK1, hD1⟩ := hB
        have hK1 := va_K.moved hvm.symm hK1
        have hJ9 := rgJ20_b6a011a hP hD hk1 hFc (atH ht hP1) hD1
        clear hP hD hPc hKc hDc hFc hP1 hD1 hk1 hz1
        obtain ⟨hP, hD⟩ := hJ9
        clear hK1
        generalize H1 = H at hP hS ⊢
        refine W.widen (k := 0) (n := 0) (Nat.le_of_ble_eq_true rfl) (Nat.le_of_ble_eq_true rfl) ?_
        have h_r296 := congrArg Int32.toInt h_u295
        have hz_r296 : r296 = 0 ∨ r296 = 1 := h_u295 ▸ hF299
        have b_r296 := z01 hz_r296
        refine cst (v := 0) (Int32.toInt_inj.mp (by rw [show (0 : Int32).toInt = 0 by decide]; omega)) ?_
        refine lv_if_ne (tgt := 183) hx hb dX9_lineHere_178 (by decide) (fun c178_301 => by exfalso; exact absurd c178_301 (by decide)) (fun c178_301 => ?_)
        refine lv_iconst (v := 0) hx hb dX9_lineHere_181 (by decide) ?_
        have qc0 : (0 : Int32).toInt = 0 := by decide
        refine W.widen (k := 0) (n := 0) (Nat.le_of_ble_eq_true rfl) (Nat.le_of_ble_eq_true rfl) ?_
        have hP9 := hP
        have hD9 := hD
        have hK9 := (rgK19_5d0c76c hK)
        have hf9_0 : (0 ≤ a0_7.toInt ∧ a0_7.toInt ≤ 1000) := by omega
        have hf9_1 : (0 ≤ a0_8.toInt ∧ a0_8.toInt ≤ 1000) := by omega
        have hf9_2 : ((-1) ≤ a0_37.toInt ∧ a0_37.toInt ≤ 23) := by omega
        have hf9_3 : vr 0 8 a0_18_f := h_a0_18_f
        have hf9_4 : vr 0 4 a0_19_f := h_a0_19_f
        have hf9_5 : vr 0 24 a0_20_f := h_a0_20_f
        have hf9_6 : vr 0 12 a0_21_f := h_a0_21_f
        have hf9_7 : ((0 : Int32) = 0 ∨ (0 : Int32) = 1) := (by decide)
        have hf9_8 : ((0 : Int32).toInt = 1 → (a0_18_f a0_17.toNatClampNeg).toInt + (a0_19_f a0_17.toNatClampNeg).toInt + (a0_20_f a0_17.toNatClampNeg).toInt + (a0_21_f a0_17.toNatClampNeg).toInt = (a0_18_f a0_17.toNatClampNeg).toInt + (a0_19_f a0_17.toNatClampNeg).toInt + (a0_20_f a0_17.toNatClampNeg).toInt + (a0_21_f a0_17.toNatClampNeg).toInt + 1) := by omega
        have hf9_9 : (KP 1 a0_20_f a0_20_f) := by first | exact KP.rf | assumption
        have hf9_10 : (KP 1 a0_21_f a0_21_f) := by first | exact KP.rf | assumption
        have hf9_11 : (KP 12 a0_32_f a0_32_f) := by first | exact KP.rf | assumption
        have hf9_12 : (KP 12 a0_33_f a0_33_f) := by first | exact KP.rf | assumption
        have hf9_13 : (PTOk a0_28_f (a0_20_f a0_17.toNatClampNeg).toInt) := by assumption
        have hf9_14 : (WOk a0_32_f a0_33_f 12 (a0_21_f a0_17.toNatClampNeg).toInt) := by assumption
        exact W.zret (v := 0) hx hb hr rfl (fun t ht hW => ⟨⟨0, 0, rfl, rfl, a0_7, a0_8, a0_9, a0_10, a0_11, za0_12_297, za0_13_298, a0_14, a0_15, a0_16, a0_36, a0_37, a0_18_f, a0_19_f, a0_20_f, a0_21_f, a0_22_f, a0_23_f, a0_24_f, a0_25_f, a0_26_f, a0_27_f, a0_28_f, a0_29_f, a0_30_f, a0_31_f, a0_32_f, a0_33_f, a0_34_f, a0_35_f, hf9_0, hf9_1, hf9_2, hf9_3, hf9_4, hf9_5, hf9_6, hf9_7, hf9_8, hf9_9, hf9_10, hf9_11, hf9_12, hf9_13, hf9_14, atB ht hP9, va_K.moved hW.alike hK9, hD9⟩, hS.F ht⟩) hS.2.2 dX9_lineHere_182
      · have c88_294 : ¬ (8 ≤ x293.toInt) := mt (cv_le (by decide) rfl).mpr c88_294
        refine lv_iconst (v := 1) hx hb dX9_lineHere_91 (by decide) ?_
        refine lv_goto (tgt := 171) hx hb dX9_lineHere_92 (by decide) ?_
        refine lv_istore_n (lv' := [(2, .int 1), (1, .int 0), (0, .ref a0)]) hx hb dX9_lineHere_171 rfl hl (by decide) rfl (fun ls hl => ?_)
        refine lv_aload_n hx hb dX9_lineHere_172 rfl (lv_at hl 2 rfl) ?_
        refine lv_iload_n hx hb dX9_lineHere_173 rfl (lv_at hl 0 rfl) ?_
        refine lv_iconst (v := 5) hx hb dX9_lineHere_174 (by decide) ?_
        have qc1 : (1 : Int32).toInt = 1 := by decide
        have qc5 : (5 : Int32).toInt = 5 := by decide
        have hPc := (rgP20_580fa52 hP)
        have hKc := (rgK19_5d0c76c hK)
        have hDc := (rgD20_ec33658 hD)
        have hFc := freeW hDc hS hA
        refine va_calli (va_runV (As := [.int 1, .int 5]) (rest := []) ⟨hx, hb, hml, hown, hts⟩ (k_X9_must l dC dI g H.size (a0) (1) (5) (a0_0) (a0_1) (a0_2) (a0_3) (a0_4) (a0_5) (a0_6) (a0_7) (a0_8) (a0_9) (a0_10) (a0_11) (za0_12_287) (za0_13_288) (a0_14) (a0_15) (a0_16) (a0_17) (a0_18) (a0_19) (a0_20) (a0_21) (a0_22) (a0_23) (a0_24) (a0_25) (a0_26) (a0_27) (a0_28) (a0_29) (a0_30) (a0_31) (a0_32) (a0_33) (a0_34) (a0_35) (a0_36) (a0_37) (a0_38) (a0_39) (a0_40) (a0_41) (a0_42) (a0_43) (by omega) (by omega) (by omega) (by omega) (by omega) (by omega) (by omega) (by omega)) (cwV 2 hts (gwV qw_472 qw_473 qw_474 qw_386 qw_471) rfl rfl rfl (by decide +kernel) ⟨Nat.le_of_ble_eq_true rfl, Nat.le_of_ble_eq_true rfl⟩) ⟨fun a U g9 mk q => ⟨q.1, q.2.1, q.2.2.1, va_K.moved (u := U) (U := U.calling g9 mk a) (Vm.Alike.refl U.vm) q.2.2.2.1, q.2.2.2.2.1, Ev.bl q.2.2.2.2.2⟩, va_recv hK hP (ci := 8) (q0 := 0) rfl rgL20_92b1330, fun U hU hW => ⟨rfl, by rw [hU], atB hU hPc, va_K.moved hW.alike hKc, hDc.weaken (fun _ _ _ _ => trivial), hE.go hS hFc hU hW⟩⟩ rfl rfl hl.1 rfl (lv_room (Nat.le_of_ble_eq_true rfl)) dX9_lineHere_175 ⟨Nat.le_of_ble_eq_true rfl, Nat.le_of_ble_eq_true rfl⟩) hS (fun q _ h => hFc q h) hFc (fun r303 u302 t H1 locs ht hvm h_u302 hB hz1 hk1 hS => ?_)
        obtain ⟨za0_12_304, za0_13_305, hF306, hF307, hP1, hK1, hD1⟩ := hB
        have hK1 := va_K.moved hvm.symm hK1
        have hJ9 := rgJ20_b6a011a hP hD hk1 hFc (atH ht hP1) hD1
        clear hP hD hPc hKc hDc hFc hP1 hD1 hk1 hz1
        obtain ⟨hP, hD⟩ := hJ9
        clear hK1
        generalize H1 = H at hP hS ⊢
        refine W.widen (k := 0) (n := 0) (Nat.le_of_ble_eq_true rfl) (Nat.le_of_ble_eq_true rfl) ?_
        have h_r303 := congrArg Int32.toInt h_u302
        have hz_r303 : r303 = 0 ∨ r303 = 1 := h_u302 ▸ hF306
        have b_r303 := z01 hz_r303
        refine lv_if_ne (tgt := 183) hx hb dX9_lineHere_178 (by decide) (fun c178_308 => ?_) (fun c178_308 => ?_)
        · have c178_308 : ¬ (r303.toInt = 0) := mt (cv_eq rfl (by decide)).mpr c178_308
          refine lv_aload_n hx hb dX9_lineHere_183 rfl (lv_at hl 2 rfl) ?_
          have hPc := (rgP20_5ec38fa hP)
          have hKc := (rgK19_4f62bf3 hK)
          have hDc := (rgD20_1e423f8 hD)
          have hFc := freeW hDc hS hA
          refine va_callv (va_runV (As := []) (rest := []) ⟨hx, hb, hml, hown, hts⟩ (k_X9_steps l dC dI g H.size (a0) (a0_0) (a0_1) (a0_2) (a0_3) (a0_4) (a0_5) (a0_6) (a0_7) (a0_8) (a0_9) (a0_10) (a0_11) (za0_12_304) (za0_13_305) (a0_14) (a0_15) (a0_16) (a0_17) (a0_18) (a0_19) (a0_20) (a0_21) (a0_22) (a0_23) (a0_24) (a0_25) (a0_26) (a0_27) (a0_28) (a0_29) (a0_30) (a0_31) (a0_32) (a0_33) (a0_34) (a0_35) (a0_36) (a0_37) (a0_38) (a0_39) (a0_40) (a0_41) (a0_42) (a0_43) (a0_4_c) (a0_4_f) (by omega) (by omega) (by omega) (by omega) (by omega) (by omega) (by omega)) (cwV 0 hts (gwV qw_468 qw_469 qw_470 qw_386 qw_467) rfl rfl rfl (by decide +kernel) ⟨Nat.le_of_ble_eq_true rfl, Nat.le_of_ble_eq_true rfl⟩) ⟨fun a U g9 mk q => ⟨q.1, q.2.1, q.2.2.1, va_K.moved (u := U) (U := U.calling g9 mk a) (Vm.Alike.refl U.vm) q.2.2.2.1, q.2.2.2.2.1, Ev.bl q.2.2.2.2.2⟩, va_recv hK hP (ci := 8) (q0 := 0) rfl rgL20_92b1330, fun U hU hW => ⟨rfl, by rw [hU], atB hU hPc, va_K.moved hW.alike hKc, hDc.weaken (fun _ _ _ _ => trivial), hE.go hS hFc hU hW⟩⟩ rfl rfl hl.1 rfl (lv_room (Nat.le_of_ble_eq_true rfl)) dX9_lineHere_184 ⟨Nat.le_of_ble_eq_true rfl, Nat.le_of_ble_eq_true rfl⟩) hS (fun q _ h => hFc q h) hFc (fun u309 t H1 locs ht hvm h_u309 hB hz1 hk1 hS => ?_)
          obtain ⟨za0_7_311, za0_8_312, za0_9_313, za0_10_314, za0_11_315, hF316, hF317, hP1, hK1, hD1⟩ := hB
          have hK1 := va_K.moved hvm.symm hK1
          have hJ9 := rgJ20_0050ee0 hP hD hk1 hFc (atH ht hP1) hD1
          clear hP hD hPc hKc hDc hFc hP1 hD1 hk1 hz1
          obtain ⟨hP, hD⟩ := hJ9
          clear hK1
          generalize H1 = H at hP hS ⊢
          refine W.widen (k := 0) (n := 0) (Nat.le_of_ble_eq_true rfl) (Nat.le_of_ble_eq_true rfl) ?_
          refine lv_iload_n hx hb dX9_lineHere_187 rfl (lv_at hl 1 rfl) ?_
          refine lv_if_ne (tgt := 198) hx hb dX9_lineHere_188 (by decide) (fun c188_318 => by exfalso; exact absurd c188_318 (by decide)) (fun c188_318 => ?_)
          refine lv_aload_n hx hb dX9_lineHere_191 rfl (lv_at hl 2 rfl) ?_
          have hPc := (rgP20_7dce927 hP)
          have hKc := (rgK19_22669c1 hK)
          have hDc := (rgD20_685a586 hD)
          have hFc := freeW hDc hS hA
          refine va_calli (va_runV (As := []) (rest := []) ⟨hx, hb, hml, hown, hts⟩ (k_X9_personLine l dC dI g H.size (a0) (a0_0) (a0_1) (a0_2) (a0_3) (a0_4) (a0_5) (a0_6) (za0_7_311) (za0_8_312) (za0_9_313) (za0_10_314) (za0_11_315) (za0_12_304) (za0_13_305) (a0_14) (a0_15) (a0_16) (a0_17) (a0_18) (a0_19) (a0_20) (a0_21) (a0_22) (a0_23) (a0_24) (a0_25) (a0_26) (a0_27) (a0_28) (a0_29) (a0_30) (a0_31) (a0_32) (a0_33) (a0_34) (a0_35) (a0_36) (a0_37) (a0_38) (a0_39) (a0_40) (a0_41) (a0_42) (a0_43) (a0_4_c) (a0_4_f) (a0_18_c) (a0_18_f) (a0_19_c) (a0_19_f) (a0_20_c) (a0_20_f) (a0_22_c) (a0_22_f) (a0_23_c) (a0_23_f) (a0_24_c) (a0_24_f) (a0_25_c) (a0_25_f) (a0_27_c) (a0_27_f) (by omega) (by omega) (by omega) (by omega) (by omega) (by omega) (by omega) h_a0_18_f h_a0_19_f h_a0_20_f (by omega) (by omega)) (cwV 0 hts (gwV qw_589 qw_590 qw_591 qw_386 qw_588) rfl rfl rfl (by decide +kernel) ⟨Nat.le_of_ble_eq_true rfl, Nat.le_of_ble_eq_true rfl⟩) ⟨fun a U g9 mk q => ⟨q.1, q.2.1, q.2.2.1, va_K.moved (u := U) (U := U.calling g9 mk a) (Vm.Alike.refl U.vm) q.2.2.2.1, q.2.2.2.2.1, Ev.bl q.2.2.2.2.2⟩, va_recv hK hP (ci := 8) (q0 := 0) rfl rgL20_92b1330, fun U hU hW => ⟨rfl, by rw [hU], atB hU hPc, va_K.moved hW.alike hKc, hDc.weaken (fun _ _ _ _ => trivial), hE.go hS hFc hU hW⟩⟩ rfl rfl hl.1 rfl (lv_room (Nat.le_of_ble_eq_true rfl)) dX9_lineHere_192 ⟨Nat.le_of_ble_eq_true rfl, Nat.le_of_ble_eq_true rfl⟩) hS (fun q _ h => hFc q h) hFc (fun r320 u319 t H1 locs ht hvm h_u319 hB hz1 hk1 hS => ?_)
          obtain ⟨za0_7_321, za0_8_322, za0_9_323, za0_10_324, za0_11_325, za0_12_326, za0_13_327, za0_14_328, za0_15_329, za0_16_330, za0_36_331, za0_18_f_332, za0_22_f_333, za0_23_f_334, za0_24_f_335, hF336, hF337, hF338, hF339, hF340, hP1, hK1, hD1⟩ := hB
          have hK1 := va_K.moved hvm.symm hK1
          have hJ9 := rgJ20_cca30bf hP hD hk1 hFc (atH ht hP1) hD1
          clear hP hD hPc hKc hDc hFc hP1 hD1 hk1 hz1
          obtain ⟨hP, hD⟩ := hJ9
          clear hK1
          generalize H1 = H at hP hS ⊢
          refine W.widen (k := 0) (n := 0) (Nat.le_of_ble_eq_true rfl) (Nat.le_of_ble_eq_true rfl) ?_
          have h_r320 := congrArg Int32.toInt h_u319
          have hz_r320 : r320 = 0 ∨ r320 = 1 := h_u319 ▸ hF339
          have b_r320 := z01 hz_r320
          refine lv_goto (tgt := 226) hx hb dX9_lineHere_195 (by decide) ?_
          refine lv_istore_n (lv' := [(3, .int r320), (2, .int 1), (1, .int 0), (0, .ref a0)]) hx hb dX9_lineHere_226 rfl hl (by decide) rfl (fun ls hl => ?_)
          refine lv_iload_n hx hb dX9_lineHere_227 rfl (lv_at hl 0 rfl) ?_
          refine lv_if_eq (tgt := 252) hx hb dX9_lineHere_228 (by decide) (fun c228_341 => ?_) (fun c228_341 => ?_)
          · have c228_341 : r320.toInt = 0 := (cv_eq rfl (by decide)).mp c228_341
            refine lv_iconst (v := 0) hx hb dX9_lineHere_252 (by decide) ?_
            have qc0 : (0 : Int32).toInt = 0 := by decide
            refine W.widen (k := 0) (n := 0) (Nat.le_of_ble_eq_true rfl) (Nat.le_of_ble_eq_true rfl) ?_
            have hP9 := hP
            have hD9 := hD
            have hK9 := (rgK19_5d0c76c hK)
            have hf9_0 : (0 ≤ za0_7_321.toInt ∧ za0_7_321.toInt ≤ 1000) := by omega
            have hf9_1 : (0 ≤ za0_8_322.toInt ∧ za0_8_322.toInt ≤ 1000) := by omega
            have hf9_2 : ((-1) ≤ a0_37.toInt ∧ a0_37.toInt ≤ 23) := by omega
            have hf9_3 : vr 0 8 za0_18_f_332 := hF338
            have hf9_4 : vr 0 4 a0_19_f := h_a0_19_f
            have hf9_5 : vr 0 24 a0_20_f := h_a0_20_f
            have hf9_6 : vr 0 12 a0_21_f := h_a0_21_f
            have hf9_7 : ((0 : Int32) = 0 ∨ (0 : Int32) = 1) := (by decide)
            have hf9_8 : ((0 : Int32).toInt = 1 → (za0_18_f_332 a0_17.toNatClampNeg).toInt + (a0_19_f a0_17.toNatClampNeg).toInt + (a0_20_f a0_17.toNatClampNeg).toInt + (a0_21_f a0_17.toNatClampNeg).toInt = (a0_18_f a0_17.toNatClampNeg).toInt + (a0_19_f a0_17.toNatClampNeg).toInt + (a0_20_f a0_17.toNatClampNeg).toInt + (a0_21_f a0_17.toNatClampNeg).toInt + 1) := by omega
            have hf9_9 : (KP 1 a0_20_f a0_20_f) := by first | exact KP.rf | assumption
            have hf9_10 : (KP 1 a0_21_f a0_21_f) := by first | exact KP.rf | assumption
            have hf9_11 : (KP 12 a0_32_f a0_32_f) := by first | exact KP.rf | assumption
            have hf9_12 : (KP 12 a0_33_f a0_33_f) := by first | exact KP.rf | assumption
            have hf9_13 : (PTOk a0_28_f (a0_20_f a0_17.toNatClampNeg).toInt) := by assumption
            have hf9_14 : (WOk a0_32_f a0_33_f 12 (a0_21_f a0_17.toNatClampNeg).toInt) := by assumption
            exact W.zret (v := 0) hx hb hr rfl (fun t ht hW => ⟨⟨0, 0, rfl, rfl, za0_7_321, za0_8_322, za0_9_323, za0_10_324, za0_11_325, za0_12_326, za0_13_327, za0_14_328, za0_15_329, za0_16_330, za0_36_331, a0_37, za0_18_f_332, a0_19_f, a0_20_f, a0_21_f, za0_22_f_333, za0_23_f_334, za0_24_f_335, a0_25_f, a0_26_f, a0_27_f, a0_28_f, a0_29_f, a0_30_f, a0_31_f, a0_32_f, a0_33_f, a0_34_f, a0_35_f, hf9_0, hf9_1, hf9_2, hf9_3, hf9_4, hf9_5, hf9_6, hf9_7, hf9_8, hf9_9, hf9_10, hf9_11, hf9_12, hf9_13, hf9_14, atB ht hP9, va_K.moved hW.alike hK9, hD9⟩, hS.F ht⟩) hS.2.2 dX9_lineHere_253
          · have c228_341 : ¬ (r320.toInt = 0) := mt (cv_eq rfl (by decide)).mpr c228_341
            refine lv_aload_n hx hb dX9_lineHere_231 rfl (lv_at hl 3 rfl) ?_
            refine lv_aload_n hx hb dX9_lineHere_232 rfl (lv_at hl 3 rfl) ?_
            refine va_get (D := (dC, dI)) (ci := 8) (v := .int za0_9_323) (C := RX9) (T := TX9) (N := 44) hx hb hts inlX9 hown hK hP 0 rgL20_92b1330 rfl 9 (by decide) (hts (.fieldLink RX9 160 "ClosedUntilModel" "token" "I") qw_421) (fun _ h9 => h9) rfl dX9_lineHere_233 ?_
            refine lv_iconst (v := 3) hx hb dX9_lineHere_236 (by decide) ?_
            refine lv_icmp_ne (tgt := 244) hx hb dX9_lineHere_237 (by decide) (fun c237_342 => ?_) (fun c237_342 => ?_)
            · have c237_342 : ¬ (za0_9_323.toInt = 3) := mt (cv_eq rfl (by decide)).mpr c237_342
              refine lv_iconst (v := 0) hx hb dX9_lineHere_244 (by decide) ?_
              refine lv_iconst (v := 1) hx hb dX9_lineHere_245 (by decide) ?_
              have qc0 : (0 : Int32).toInt = 0 := by decide
              have qc1 : (1 : Int32).toInt = 1 := by decide
              have hPc := (rgP20_580fa52 hP)
              have hKc := (rgK19_5d0c76c hK)
              have hDc := (rgD20_ec33658 hD)
              have hFc := freeW hDc hS hA
              refine va_calli (va_runV (As := [.int 0, .int 1]) (rest := []) ⟨hx, hb, hml, hown, hts⟩ (k_X9_must l dC dI g H.size (a0) (0) (1) (a0_0) (a0_1) (a0_2) (a0_3) (a0_4) (a0_5) (a0_6) (za0_7_321) (za0_8_322) (za0_9_323) (za0_10_324) (za0_11_325) (za0_12_326) (za0_13_327) (za0_14_328) (za0_15_329) (za0_16_330) (a0_17) (a0_18) (a0_19) (a0_20) (a0_21) (a0_22) (a0_23) (a0_24) (a0_25) (a0_26) (a0_27) (a0_28) (a0_29) (a0_30) (a0_31) (a0_32) (a0_33) (a0_34) (a0_35) (za0_36_331) (a0_37) (a0_38) (a0_39) (a0_40) (a0_41) (a0_42) (a0_43) (by omega) (by omega) (by omega) (by omega) (by omega) (by omega) (by omega) (by omega)) (cwV 2 hts (gwV qw_472 qw_473 qw_474 qw_386 qw_471) rfl rfl rfl (by decide +kernel) ⟨Nat.le_of_ble_eq_true rfl, Nat.le_of_ble_eq_true rfl⟩) ⟨fun a U g9 mk q => ⟨q.1, q.2.1, q.2.2.1, va_K.moved (u := U) (U := U.calling g9 mk a) (Vm.Alike.refl U.vm) q.2.2.2.1, q.2.2.2.2.1, Ev.bl q.2.2.2.2.2⟩, va_recv hK hP (ci := 8) (q0 := 0) rfl rgL20_92b1330, fun U hU hW => ⟨rfl, by rw [hU], atB hU hPc, va_K.moved hW.alike hKc, hDc.weaken (fun _ _ _ _ => trivial), hE.go hS hFc hU hW⟩⟩ rfl rfl hl.1 rfl (lv_room (Nat.le_of_ble_eq_true rfl)) dX9_lineHere_246 ⟨Nat.le_of_ble_eq_true rfl, Nat.le_of_ble_eq_true rfl⟩) hS (fun q _ h => hFc q h) hFc (fun r344 u343 t H1 locs ht hvm h_u343 hB hz1 hk1 hS => ?_)
              obtain ⟨za0_12_345, za0_13_346, hF347, hF348, hP1, hK1, hD1⟩ := hB
              have hK1 := va_K.moved hvm.symm hK1
              have hJ9 := rgJ20_b6a011a hP hD hk1 hFc (atH ht hP1) hD1
              clear hP hD hPc hKc hDc hFc hP1 hD1 hk1 hz1
              obtain ⟨hP, hD⟩ := hJ9
              clear hK1
              generalize H1 = H at hP hS ⊢
              refine W.widen (k := 0) (n := 0) (Nat.le_of_ble_eq_true rfl) (Nat.le_of_ble_eq_true rfl) ?_
              have h_r344 := congrArg Int32.toInt h_u343
              have hz_r344 : r344 = 0 ∨ r344 = 1 := h_u343 ▸ hF347
              have b_r344 := z01 hz_r344
              refine cst (v := 0) (Int32.toInt_inj.mp (by rw [show (0 : Int32).toInt = 0 by decide]; omega)) ?_
              refine lv_if_ne (tgt := 254) hx hb dX9_lineHere_249 (by decide) (fun c249_349 => by exfalso; exact absurd c249_349 (by decide)) (fun c249_349 => ?_)
              refine lv_iconst (v := 0) hx hb dX9_lineHere_252 (by decide) ?_
              have qc0 : (0 : Int32).toInt = 0 := by decide
              refine W.widen (k := 0) (n := 0) (Nat.le_of_ble_eq_true rfl) (Nat.le_of_ble_eq_true rfl) ?_
              have hP9 := hP
              have hD9 := hD
              have hK9 := (rgK19_5d0c76c hK)
              have hf9_0 : (0 ≤ za0_7_321.toInt ∧ za0_7_321.toInt ≤ 1000) := by omega
              have hf9_1 : (0 ≤ za0_8_322.toInt ∧ za0_8_322.toInt ≤ 1000) := by omega
              have hf9_2 : ((-1) ≤ a0_37.toInt ∧ a0_37.toInt ≤ 23) := by omega
              have hf9_3 : vr 0 8 za0_18_f_332 := hF338
              have hf9_4 : vr 0 4 a0_19_f := h_a0_19_f
              have hf9_5 : vr 0 24 a0_20_f := h_a0_20_f
              have hf9_6 : vr 0 12 a0_21_f := h_a0_21_f
              have hf9_7 : ((0 : Int32) = 0 ∨ (0 : Int32) = 1) := (by decide)
              have hf9_8 : ((0 : Int32).toInt = 1 → (za0_18_f_332 a0_17.toNatClampNeg).toInt + (a0_19_f a0_17.toNatClampNeg).toInt + (a0_20_f a0_17.toNatClampNeg).toInt + (a0_21_f a0_17.toNatClampNeg).toInt = (a0_18_f a0_17.toNatClampNeg).toInt + (a0_19_f a0_17.toNatClampNeg).toInt + (a0_20_f a0_17.toNatClampNeg).toInt + (a0_21_f a0_17.toNatClampNeg).toInt + 1) := by omega
              have hf9_9 : (KP 1 a0_20_f a0_20_f) := by first | exact KP.rf | assumption
              have hf9_10 : (KP 1 a0_21_f a0_21_f) := by first | exact KP.rf | assumption
              have hf9_11 : (KP 12 a0_32_f a0_32_f) := by first | exact KP.rf | assumption
              have hf9_12 : (KP 12 a0_33_f a0_33_f) := by first | exact KP.rf | assumption
              have hf9_13 : (PTOk a0_28_f (a0_20_f a0_17.toNatClampNeg).toInt) := by assumption
              have hf9_14 : (WOk a0_32_f a0_33_f 12 (a0_21_f a0_17.toNatClampNeg).toInt) := by assumption
              exact W.zret (v := 0) hx hb hr rfl (fun t ht hW => ⟨⟨0, 0, rfl, rfl, za0_7_321, za0_8_322, za0_9_323, za0_10_324, za0_11_325, za0_12_345, za0_13_346, za0_14_328, za0_15_329, za0_16_330, za0_36_331, a0_37, za0_18_f_332, a0_19_f, a0_20_f, a0_21_f, za0_22_f_333, za0_23_f_334, za0_24_f_335, a0_25_f, a0_26_f, a0_27_f, a0_28_f, a0_29_f, a0_30_f, a0_31_f, a0_32_f, a0_33_f, a0_34_f, a0_35_f, hf9_0, hf9_1, hf9_2, hf9_3, hf9_4, hf9_5, hf9_6, hf9_7, hf9_8, hf9_9, hf9_10, hf9_11, hf9_12, hf9_13, hf9_14, atB ht hP9, va_K.moved hW.alike hK9, hD9⟩, hS.F ht⟩) hS.2.2 dX9_lineHere_253
            · have c237_342 : za0_9_323.toInt = 3 := (cv_eq rfl (by decide)).mp c237_342
              refine lv_iconst (v := 1) hx hb dX9_lineHere_240 (by decide) ?_
              refine lv_goto (tgt := 245) hx hb dX9_lineHere_241 (by decide) ?_
              refine lv_iconst (v := 1) hx hb dX9_lineHere_245 (by decide) ?_
              have qc1 : (1 : Int32).toInt = 1 := by decide
              have hPc := (rgP20_580fa52 hP)
              have hKc := (rgK19_5d0c76c hK)
              have hDc := (rgD20_ec33658 hD)
              have hFc := freeW hDc hS hA
              refine va_calli (va_runV (As := [.int 1, .int 1]) (rest := []) ⟨hx, hb, hml, hown, hts⟩ (k_X9_must l dC dI g H.size (a0) (1) (1) (a0_0) (a0_1) (a0_2) (a0_3) (a0_4) (a0_5) (a0_6) (za0_7_321) (za0_8_322) (za0_9_323) (za0_10_324) (za0_11_325) (za0_12_326) (za0_13_327) (za0_14_328) (za0_15_329) (za0_16_330) (a0_17) (a0_18) (a0_19) (a0_20) (a0_21) (a0_22) (a0_23) (a0_24) (a0_25) (a0_26) (a0_27) (a0_28) (a0_29) (a0_30) (a0_31) (a0_32) (a0_33) (a0_34) (a0_35) (za0_36_331) (a0_37) (a0_38) (a0_39) (a0_40) (a0_41) (a0_42) (a0_43) (by omega) (by omega) (by omega) (by omega) (by omega) (by omega) (by omega) (by omega)) (cwV 2 hts (gwV qw_472 qw_473 qw_474 qw_386 qw_471) rfl rfl rfl (by decide +kernel) ⟨Nat.le_of_ble_eq_true rfl, Nat.le_of_ble_eq_true rfl⟩) ⟨fun a U g9 mk q => ⟨q.1, q.2.1, q.2.2.1, va_K.moved (u := U) (U := U.calling g9 mk a) (Vm.Alike.refl U.vm) q.2.2.2.1, q.2.2.2.2.1, Ev.bl q.2.2.2.2.2⟩, va_recv hK hP (ci := 8) (q0 := 0) rfl rgL20_92b1330, fun U hU hW => ⟨rfl, by rw [hU], atB hU hPc, va_K.moved hW.alike hKc, hDc.weaken (fun _ _ _ _ => trivial), hE.go hS hFc hU hW⟩⟩ rfl rfl hl.1 rfl (lv_room (Nat.le_of_ble_eq_true rfl)) dX9_lineHere_246 ⟨Nat.le_of_ble_eq_true rfl, Nat.le_of_ble_eq_true rfl⟩) hS (fun q _ h => hFc q h) hFc (fun r351 u350 t H1 locs ht hvm h_u350 hB hz1 hk1 hS => ?_)
              obtain ⟨za0_12_352, za0_13_353, hF354, hF355, hP1, hK1, hD1⟩ := hB
              have hK1 := va_K.moved hvm.symm hK1
              have hJ9 := rgJ20_b6a011a hP hD hk1 hFc (atH ht hP1) hD1
              clear hP hD hPc hKc hDc hFc hP1 hD1 hk1 hz1
              obtain ⟨hP, hD⟩ := hJ9
              clear hK1
              generalize H1 = H at hP hS ⊢
              refine W.widen (k := 0) (n := 0) (Nat.le_of_ble_eq_true rfl) (Nat.le_of_ble_eq_true rfl) ?_
              have h_r351 := congrArg Int32.toInt h_u350
              have hz_r351 : r351 = 0 ∨ r351 = 1 := h_u350 ▸ hF354
              have b_r351 := z01 hz_r351
              refine lv_if_ne (tgt := 254) hx hb dX9_lineHere_249 (by decide) (fun c249_356 => ?_) (fun c249_356 => ?_)
              · have c249_356 : ¬ (r351.toInt = 0) := mt (cv_eq rfl (by decide)).mpr c249_356
                refine lv_aload_n hx hb dX9_lineHere_254 rfl (lv_at hl 3 rfl) ?_
                have hPc := (rgP20_5ec38fa hP)
                have hKc := (rgK19_4f62bf3 hK)
                have hDc := (rgD20_1e423f8 hD)
                have hFc := freeW hDc hS hA
                refine va_callv (va_runV (As := []) (rest := []) ⟨hx, hb, hml, hown, hts⟩ (k_X9_steps l dC dI g H.size (a0) (a0_0) (a0_1) (a0_2) (a0_3) (a0_4) (a0_5) (a0_6) (za0_7_321) (za0_8_322) (za0_9_323) (za0_10_324) (za0_11_325) (za0_12_352) (za0_13_353) (za0_14_328) (za0_15_329) (za0_16_330) (a0_17) (a0_18) (a0_19) (a0_20) (a0_21) (a0_22) (a0_23) (a0_24) (a0_25) (a0_26) (a0_27) (a0_28) (a0_29) (a0_30) (a0_31) (a0_32) (a0_33) (a0_34) (a0_35) (za0_36_331) (a0_37) (a0_38) (a0_39) (a0_40) (a0_41) (a0_42) (a0_43) (a0_4_c) (a0_4_f) (by omega) (by omega) (by omega) (by omega) (by omega) (by omega) (by omega)) (cwV 0 hts (gwV qw_468 qw_469 qw_470 qw_386 qw_467) rfl rfl rfl (by decide +kernel) ⟨Nat.le_of_ble_eq_true rfl, Nat.le_of_ble_eq_true rfl⟩) ⟨fun a U g9 mk q => ⟨q.1, q.2.1, q.2.2.1, va_K.moved (u := U) (U := U.calling g9 mk a) (Vm.Alike.refl U.vm) q.2.2.2.1, q.2.2.2.2.1, Ev.bl q.2.2.2.2.2⟩, va_recv hK hP (ci := 8) (q0 := 0) rfl rgL20_92b1330, fun U hU hW => ⟨rfl, by rw [hU], atB hU hPc, va_K.moved hW.alike hKc, hDc.weaken (fun _ _ _ _ => trivial), hE.go hS hFc hU hW⟩⟩ rfl rfl hl.1 rfl (lv_room (Nat.le_of_ble_eq_true rfl)) dX9_lineHere_255 ⟨Nat.le_of_ble_eq_true rfl, Nat.le_of_ble_eq_true rfl⟩) hS (fun q _ h => hFc q h) hFc (fun u357 t H1 locs ht hvm h_u357 hB hz1 hk1 hS => ?_)
                obtain ⟨za0_7_359, za0_8_360, za0_9_361, za0_10_362, za0_11_363, hF364, hF365, hP1, hK1, hD1⟩ := hB
                have hK1 := va_K.moved hvm.symm hK1
                have hJ9 := rgJ20_0050ee0 hP hD hk1 hFc (atH ht hP1) hD1
                clear hP hD hPc hKc hDc hFc hP1 hD1 hk1 hz1
                obtain ⟨hP, hD⟩ := hJ9
                clear hK1
                generalize H1 = H at hP hS ⊢
                refine W.widen (k := 0) (n := 0) (Nat.le_of_ble_eq_true rfl) (Nat.le_of_ble_eq_true rfl) ?_
                refine lv_iconst (v := 1) hx hb dX9_lineHere_258 (by decide) ?_
                have qc1 : (1 : Int32).toInt = 1 := by decide
                refine W.widen (k := 0) (n := 0) (Nat.le_of_ble_eq_true rfl) (Nat.le_of_ble_eq_true rfl) ?_
                have hP9 := hP
                have hD9 := hD
                have hK9 := (rgK19_5d0c76c hK)
                have hf9_0 : (0 ≤ za0_7_359.toInt ∧ za0_7_359.toInt ≤ 1000) := by omega
                have hf9_1 : (0 ≤ za0_8_360.toInt ∧ za0_8_360.toInt ≤ 1000) := by omega
                have hf9_2 : ((-1) ≤ a0_37.toInt ∧ a0_37.toInt ≤ 23) := by omega
                have hf9_3 : vr 0 8 za0_18_f_332 := hF338
                have hf9_4 : vr 0 4 a0_19_f := h_a0_19_f
                have hf9_5 : vr 0 24 a0_20_f := h_a0_20_f
                have hf9_6 : vr 0 12 a0_21_f := h_a0_21_f
                have hf9_7 : ((1 : Int32) = 0 ∨ (1 : Int32) = 1) := (by decide)
                have hf9_8 : ((1 : Int32).toInt = 1 → (za0_18_f_332 a0_17.toNatClampNeg).toInt + (a0_19_f a0_17.toNatClampNeg).toInt + (a0_20_f a0_17.toNatClampNeg).toInt + (a0_21_f a0_17.toNatClampNeg).toInt = (a0_18_f a0_17.toNatClampNeg).toInt + (a0_19_f a0_17.toNatClampNeg).toInt + (a0_20_f a0_17.toNatClampNeg).toInt + (a0_21_f a0_17.toNatClampNeg).toInt + 1) := by omega
                have hf9_9 : (KP 1 a0_20_f a0_20_f) := by first | exact KP.rf | assumption
                have hf9_10 : (KP 1 a0_21_f a0_21_f) := by first | exact KP.rf | assumption
                have hf9_11 : (KP 12 a0_32_f a0_32_f) := by first | exact KP.rf | assumption
                have hf9_12 : (KP 12 a0_33_f a0_33_f) := by first | exact KP.rf | assumption
                have hf9_13 : (PTOk a0_28_f (a0_20_f a0_17.toNatClampNeg).toInt) := by assumption
                have hf9_14 : (WOk a0_32_f a0_33_f 12 (a0_21_f a0_17.toNatClampNeg).toInt) := by assumption
                exact W.zret (v := 1) hx hb hr rfl (fun t ht hW => ⟨⟨1, 1, rfl, rfl, za0_7_359, za0_8_360, za0_9_361, za0_10_362, za0_11_363, za0_12_352, za0_13_353, za0_14_328, za0_15_329, za0_16_330, za0_36_331, a0_37, za0_18_f_332, a0_19_f, a0_20_f, a0_21_f, za0_22_f_333, za0_23_f_334, za0_24_f_335, a0_25_f, a0_26_f, a0_27_f, a0_28_f, a0_29_f, a0_30_f, a0_31_f, a0_32_f, a0_33_f, a0_34_f, a0_35_f, hf9_0, hf9_1, hf9_2, hf9_3, hf9_4, hf9_5, hf9_6, hf9_7, hf9_8, hf9_9, hf9_10, hf9_11, hf9_12, hf9_13, hf9_14, atB ht hP9, va_K.moved hW.alike hK9, hD9⟩, hS.F ht⟩) hS.2.2 dX9_lineHere_259
              · have c249_356 : r351.toInt = 0 := (cv_eq rfl (by decide)).mp c249_356
                refine lv_iconst (v := 0) hx hb dX9_lineHere_252 (by decide) ?_
                have qc0 : (0 : Int32).toInt = 0 := by decide
                refine W.widen (k := 0) (n := 0) (Nat.le_of_ble_eq_true rfl) (Nat.le_of_ble_eq_true rfl) ?_
                have hP9 := hP
                have hD9 := hD
                have hK9 := (rgK19_5d0c76c hK)
                have hf9_0 : (0 ≤ za0_7_321.toInt ∧ za0_7_321.toInt ≤ 1000) := by omega
                have hf9_1 : (0 ≤ za0_8_322.toInt ∧ za0_8_322.toInt ≤ 1000) := by omega
                have hf9_2 : ((-1) ≤ a0_37.toInt ∧ a0_37.toInt ≤ 23) := by omega
                have hf9_3 : vr 0 8 za0_18_f_332 := hF338
                have hf9_4 : vr 0 4 a0_19_f := h_a0_19_f
                have hf9_5 : vr 0 24 a0_20_f := h_a0_20_f
                have hf9_6 : vr 0 12 a0_21_f := h_a0_21_f
                have hf9_7 : ((0 : Int32) = 0 ∨ (0 : Int32) = 1) := (by decide)
                have hf9_8 : ((0 : Int32).toInt = 1 → (za0_18_f_332 a0_17.toNatClampNeg).toInt + (a0_19_f a0_17.toNatClampNeg).toInt + (a0_20_f a0_17.toNatClampNeg).toInt + (a0_21_f a0_17.toNatClampNeg).toInt = (a0_18_f a0_17.toNatClampNeg).toInt + (a0_19_f a0_17.toNatClampNeg).toInt + (a0_20_f a0_17.toNatClampNeg).toInt + (a0_21_f a0_17.toNatClampNeg).toInt + 1) := by omega
                have hf9_9 : (KP 1 a0_20_f a0_20_f) := by first | exact KP.rf | assumption
                have hf9_10 : (KP 1 a0_21_f a0_21_f) := by first | exact KP.rf | assumption
                have hf9_11 : (KP 12 a0_32_f a0_32_f) := by first | exact KP.rf | assumption
                have hf9_12 : (KP 12 a0_33_f a0_33_f) := by first | exact KP.rf | assumption
                have hf9_13 : (PTOk a0_28_f (a0_20_f a0_17.toNatClampNeg).toInt) := by assumption
                have hf9_14 : (WOk a0_32_f a0_33_f 12 (a0_21_f a0_17.toNatClampNeg).toInt) := by assumption
                exact W.zret (v := 0) hx hb hr rfl (fun t ht hW => ⟨⟨0, 0, rfl, rfl, za0_7_321, za0_8_322, za0_9_323, za0_10_324, za0_11_325, za0_12_352, za0_13_353, za0_14_328, za0_15_329, za0_16_330, za0_36_331, a0_37, za0_18_f_332, a0_19_f, a0_20_f, a0_21_f, za0_22_f_333, za0_23_f_334, za0_24_f_335, a0_25_f, a0_26_f, a0_27_f, a0_28_f, a0_29_f, a0_30_f, a0_31_f, a0_32_f, a0_33_f, a0_34_f, a0_35_f, hf9_0, hf9_1, hf9_2, hf9_3, hf9_4, hf9_5, hf9_6, hf9_7, hf9_8, hf9_9, hf9_10, hf9_11, hf9_12, hf9_13, hf9_14, atB ht hP9, va_K.moved hW.alike hK9, hD9⟩, hS.F ht⟩) hS.2.2 dX9_lineHere_253
        · have c178_308 : r303.toInt = 0 := (cv_eq rfl (by decide)).mp c178_308
          refine lv_iconst (v := 0) hx hb dX9_lineHere_181 (by decide) ?_
          have qc0 : (0 : Int32).toInt = 0 := by decide
          refine W.widen (k := 0) (n := 0) (Nat.le_of_ble_eq_true rfl) (Nat.le_of_ble_eq_true rfl) ?_
          have hP9 := hP
          have hD9 := hD
          have hK9 := (rgK19_5d0c76c hK)
          have hf9_0 : (0 ≤ a0_7.toInt ∧ a0_7.toInt ≤ 1000) := by omega
          have hf9_1 : (0 ≤ a0_8.toInt ∧ a0_8.toInt ≤ 1000) := by omega
          have hf9_2 : ((-1) ≤ a0_37.toInt ∧ a0_37.toInt ≤ 23) := by omega
          have hf9_3 : vr 0 8 a0_18_f := h_a0_18_f
          have hf9_4 : vr 0 4 a0_19_f := h_a0_19_f
          have hf9_5 : vr 0 24 a0_20_f := h_a0_20_f
          have hf9_6 : vr 0 12 a0_21_f := h_a0_21_f
          have hf9_7 : ((0 : Int32) = 0 ∨ (0 : Int32) = 1) := (by decide)
          have hf9_8 : ((0 : Int32).toInt = 1 → (a0_18_f a0_17.toNatClampNeg).toInt + (a0_19_f a0_17.toNatClampNeg).toInt + (a0_20_f a0_17.toNatClampNeg).toInt + (a0_21_f a0_17.toNatClampNeg).toInt = (a0_18_f a0_17.toNatClampNeg).toInt + (a0_19_f a0_17.toNatClampNeg).toInt + (a0_20_f a0_17.toNatClampNeg).toInt + (a0_21_f a0_17.toNatClampNeg).toInt + 1) := by omega
          have hf9_9 : (KP 1 a0_20_f a0_20_f) := by first | exact KP.rf | assumption
          have hf9_10 : (KP 1 a0_21_f a0_21_f) := by first | exact KP.rf | assumption
          have hf9_11 : (KP 12 a0_32_f a0_32_f) := by first | exact KP.rf | assumption
          have hf9_12 : (KP 12 a0_33_f a0_33_f) := by first | exact KP.rf | assumption
          have hf9_13 : (PTOk a0_28_f (a0_20_f a0_17.toNatClampNeg).toInt) := by assumption
          have hf9_14 : (WOk a0_32_f a0_33_f 12 (a0_21_f a0_17.toNatClampNeg).toInt) := by assumption
          exact W.zret (v := 0) hx hb hr rfl (fun t ht hW => ⟨⟨0, 0, rfl, rfl, a0_7, a0_8, a0_9, a0_10, a0_11, za0_12_304, za0_13_305, a0_14, a0_15, a0_16, a0_36, a0_37, a0_18_f, a0_19_f, a0_20_f, a0_21_f, a0_22_f, a0_23_f, a0_24_f, a0_25_f, a0_26_f, a0_27_f, a0_28_f, a0_29_f, a0_30_f, a0_31_f, a0_32_f, a0_33_f, a0_34_f, a0_35_f, hf9_0, hf9_1, hf9_2, hf9_3, hf9_4, hf9_5, hf9_6, hf9_7, hf9_8, hf9_9, hf9_10, hf9_11, hf9_12, hf9_13, hf9_14, atB ht hP9, va_K.moved hW.alike hK9, hD9⟩, hS.F ht⟩) hS.2.2 dX9_lineHere_182
    · have c68_291 : r286.toInt = 0 := (cv_eq rfl (by decide)).mp c68_291
      refine lv_iconst (v := 0) hx hb dX9_lineHere_71 (by decide) ?_
      have qc0 : (0 : Int32).toInt = 0 := by decide
      refine W.widen (k := 0) (n := 0) (Nat.le_of_ble_eq_true rfl) (Nat.le_of_ble_eq_true rfl) ?_
      have hP9 := hP
      have hD9 := hD
      have hK9 := (rgK19_5d0c76c hK)
      have hf9_0 : (0 ≤ a0_7.toInt ∧ a0_7.toInt ≤ 1000) := by omega
      have hf9_1 : (0 ≤ a0_8.toInt ∧ a0_8.toInt ≤ 1000) := by omega
      have hf9_2 : ((-1) ≤ a0_37.toInt ∧ a0_37.toInt ≤ 23) := by omega
      have hf9_3 : vr 0 8 a0_18_f := h_a0_18_f
      have hf9_4 : vr 0 4 a0_19_f := h_a0_19_f
      have hf9_5 : vr 0 24 a0_20_f := h_a0_20_f
      have hf9_6 : vr 0 12 a0_21_f := h_a0_21_f
      have hf9_7 : ((0 : Int32) = 0 ∨ (0 : Int32) = 1) := (by decide)
      have hf9_8 : ((0 : Int32).toInt = 1 → (a0_18_f a0_17.toNatClampNeg).toInt + (a0_19_f a0_17.toNatClampNeg).toInt + (a0_20_f a0_17.toNatClampNeg).toInt + (a0_21_f a0_17.toNatClampNeg).toInt = (a0_18_f a0_17.toNatClampNeg).toInt + (a0_19_f a0_17.toNatClampNeg).toInt + (a0_20_f a0_17.toNatClampNeg).toInt + (a0_21_f a0_17.toNatClampNeg).toInt + 1) := by omega
      have hf9_9 : (KP 1 a0_20_f a0_20_f) := by first | exact KP.rf | assumption
      have hf9_10 : (KP 1 a0_21_f a0_21_f) := by first | exact KP.rf | assumption
      have hf9_11 : (KP 12 a0_32_f a0_32_f) := by first | exact KP.rf | assumption
      have hf9_12 : (KP 12 a0_33_f a0_33_f) := by first | exact KP.rf | assumption
      have hf9_13 : (PTOk a0_28_f (a0_20_f a0_17.toNatClampNeg).toInt) := by assumption
      have hf9_14 : (WOk a0_32_f a0_33_f 12 (a0_21_f a0_17.toNatClampNeg).toInt) := by assumption
      exact W.zret (v := 0) hx hb hr rfl (fun t ht hW => ⟨⟨0, 0, rfl, rfl, a0_7, a0_8, a0_9, a0_10, a0_11, za0_12_287, za0_13_288, a0_14, a0_15, a0_16, a0_36, a0_37, a0_18_f, a0_19_f, a0_20_f, a0_21_f, a0_22_f, a0_23_f, a0_24_f, a0_25_f, a0_26_f, a0_27_f, a0_28_f, a0_29_f, a0_30_f, a0_31_f, a0_32_f, a0_33_f, a0_34_f, a0_35_f, hf9_0, hf9_1, hf9_2, hf9_3, hf9_4, hf9_5, hf9_6, hf9_7, hf9_8, hf9_9, hf9_10, hf9_11, hf9_12, hf9_13, hf9_14, atB ht hP9, va_K.moved hW.alike hK9, hD9⟩, hS.F ht⟩) hS.2.2 dX9_lineHere_72
set_option maxHeartbeats 4000000 in
set_option maxRecDepth 100000 in
theorem k_X9_copies (l : Launch) (dC : Nat → ClassId) (dI : Nat → Nat → Nat) (g : Gv) (sz : Nat) (a0 : Nat) (a0_0 : Int32) (a0_1 : Int32) (a0_2 : Int32) (a0_3 : Int32) (a0_4 : Nat) (a0_5 : Int32) (a0_6 : Int32) (a0_7 : Int32) (a0_8 : Int32) (a0_9 : Int32) (a0_10 : Int32) (a0_11 : Int64) (a0_12 : Int32) (a0_13 : Int32) (a0_14 : Int32) (a0_15 : Int32) (a0_16 : Int32) (a0_17 : Int32) (a0_18 : Nat) (a0_19 : Nat) (a0_20 : Nat) (a0_21 : Nat) (a0_22 : Nat) (a0_23 : Nat) (a0_24 : Nat) (a0_25 : Nat) (a0_26 : Nat) (a0_27 : Nat) (a0_28 : Nat) (a0_29 : Nat) (a0_30 : Nat) (a0_31 : Nat) (a0_32 : Nat) (a0_33 : Nat) (a0_34 : Nat) (a0_35 : Nat) (a0_36 : Int64) (a0_37 : Int32) (a0_38 : Nat) (a0_39 : Nat) (a0_40 : Int32) (a0_41 : Nat) (a0_42 : Nat) (a0_43 : Nat) (a0_18_c : ClassId) (a0_18_f : Nat → Int32) (a0_19_c : ClassId) (a0_19_f : Nat → Int32) (a0_20_c : ClassId) (a0_20_f : Nat → Int32) (a0_21_c : ClassId) (a0_21_f : Nat → Int32) (a0_22_c : ClassId) (a0_22_f : Nat → Int64) (a0_23_c : ClassId) (a0_23_f : Nat → Int32) (a0_24_c : ClassId) (a0_24_f : Nat → Int32) (a0_25_c : ClassId) (a0_25_f : Nat → Int64) (a0_26_c : ClassId) (a0_26_f : Nat → Int32) (a0_27_c : ClassId) (a0_27_f : Nat → Int64) (a0_28_c : ClassId) (a0_28_f : Nat → Int32) (a0_29_c : ClassId) (a0_29_f : Nat → Int32) (a0_30_c : ClassId) (a0_30_f : Nat → Int32) (a0_31_c : ClassId) (a0_31_f : Nat → Int32) (a0_32_c : ClassId) (a0_32_f : Nat → Int32) (a0_33_c : ClassId) (a0_33_f : Nat → Int32) (a0_34_c : ClassId) (a0_34_f : Nat → Int32) (a0_35_c : ClassId) (a0_35_f : Nat → Int32) (a0_38_c : ClassId) (a0_38_f : Nat → Int32) (h_a0_5 : 0 ≤ a0_5.toInt ∧ a0_5.toInt ≤ 1000) (h_a0_6 : 0 ≤ a0_6.toInt ∧ a0_6.toInt ≤ 1000) (h_a0_7 : 0 ≤ a0_7.toInt ∧ a0_7.toInt ≤ 1000) (h_a0_8 : 0 ≤ a0_8.toInt ∧ a0_8.toInt ≤ 1000) (h_a0_17 : 0 ≤ a0_17.toInt ∧ a0_17.toInt ≤ 1) (h_a0_37 : (-1) ≤ a0_37.toInt ∧ a0_37.toInt ≤ 23) (h_a0_40 : 0 ≤ a0_40.toInt ∧ a0_40.toInt ≤ 12) (h_a0_18_f : vr 0 8 a0_18_f) (h_a0_19_f : vr 0 4 a0_19_f) (h_a0_20_f : vr 0 24 a0_20_f) (h_a0_21_f : vr 0 12 a0_21_f) (hpt : PTOk a0_28_f (a0_20_f 1).toInt) (hwo : WOk a0_32_f a0_33_f 12 (a0_21_f 1).toInt) : Met l yX9_copies (.code yX9_copies cX9_copies 3 none :: TBL) ({ frames := 0, cells := 0, slots := 0, locals := 0 }) (va_Pc [.ref a0] (fun U => U.heap.size = sz ∧ va_P (dC, dI) vwCl [(a0, .inr (8, [.int a0_0, .int a0_1, .int a0_2, .int a0_3, .ref a0_4, .int a0_5, .int a0_6, .int a0_7, .int a0_8, .int a0_9, .int a0_10, .long a0_11, .int a0_12, .int a0_13, .int a0_14, .int a0_15, .int a0_16, .int a0_17, .ref a0_18, .ref a0_19, .ref a0_20, .ref a0_21, .ref a0_22, .ref a0_23, .ref a0_24, .ref a0_25, .ref a0_26, .ref a0_27, .ref a0_28, .ref a0_29, .ref a0_30, .ref a0_31, .ref a0_32, .ref a0_33, .ref a0_34, .ref a0_35, .long a0_36, .int a0_37, .ref a0_38, .ref a0_39, .int a0_40, .ref a0_41, .ref a0_42, .ref a0_43])), (a0_18, .inl (a0_18_c, 2, .inl a0_18_f)), (a0_19, .inl (a0_19_c, 2, .inl a0_19_f)), (a0_20, .inl (a0_20_c, 2, .inl a0_20_f)), (a0_21, .inl (a0_21_c, 2, .inl a0_21_f)), (a0_22, .inl (a0_22_c, 16, .inr (.inl a0_22_f))), (a0_23, .inl (a0_23_c, 16, .inl a0_23_f)), (a0_24, .inl (a0_24_c, 16, .inl a0_24_f)), (a0_25, .inl (a0_25_c, 8, .inr (.inl a0_25_f))), (a0_26, .inl (a0_26_c, 8, .inl a0_26_f)), (a0_27, .inl (a0_27_c, 48, .inr (.inl a0_27_f))), (a0_28, .inl (a0_28_c, 48, .inl a0_28_f)), (a0_29, .inl (a0_29_c, 48, .inl a0_29_f)), (a0_30, .inl (a0_30_c, 48, .inl a0_30_f)), (a0_31, .inl (a0_31_c, 48, .inl a0_31_f)), (a0_32, .inl (a0_32_c, 24, .inl a0_32_f)), (a0_33, .inl (a0_33_c, 24, .inl a0_33_f)), (a0_34, .inl (a0_34_c, 72, .inl a0_34_f)), (a0_35, .inl (a0_35_c, 24, .inl a0_35_f)), (a0_38, .inl (a0_38_c, 176, .inl a0_38_f))] U.heap ∧ va_K (dC, dI) vwCl [(a0_18_c, .int), (a0_19_c, .int), (a0_20_c, .int), (a0_21_c, .int), (a0_22_c, .long), (a0_23_c, .int), (a0_24_c, .int), (a0_25_c, .long), (a0_26_c, .int), (a0_27_c, .long), (a0_28_c, .int), (a0_29_c, .int), (a0_30_c, .int), (a0_31_c, .int), (a0_32_c, .int), (a0_33_c, .int), (a0_34_c, .int), (a0_35_c, .boolean), (a0_38_c, .int)] U ∧ va_D (fun _ => True) [(a0, .inr (8, [.int a0_0, .int a0_1, .int a0_2, .int a0_3, .ref a0_4, .int a0_5, .int a0_6, .int a0_7, .int a0_8, .int a0_9, .int a0_10, .long a0_11, .int a0_12, .int a0_13, .int a0_14, .int a0_15, .int a0_16, .int a0_17, .ref a0_18, .ref a0_19, .ref a0_20, .ref a0_21, .ref a0_22, .ref a0_23, .ref a0_24, .ref a0_25, .ref a0_26, .ref a0_27, .ref a0_28, .ref a0_29, .ref a0_30, .ref a0_31, .ref a0_32, .ref a0_33, .ref a0_34, .ref a0_35, .long a0_36, .int a0_37, .ref a0_38, .ref a0_39, .int a0_40, .ref a0_41, .ref a0_42, .ref a0_43])), (a0_18, .inl (a0_18_c, 2, .inl a0_18_f)), (a0_19, .inl (a0_19_c, 2, .inl a0_19_f)), (a0_20, .inl (a0_20_c, 2, .inl a0_20_f)), (a0_21, .inl (a0_21_c, 2, .inl a0_21_f)), (a0_22, .inl (a0_22_c, 16, .inr (.inl a0_22_f))), (a0_23, .inl (a0_23_c, 16, .inl a0_23_f)), (a0_24, .inl (a0_24_c, 16, .inl a0_24_f)), (a0_25, .inl (a0_25_c, 8, .inr (.inl a0_25_f))), (a0_26, .inl (a0_26_c, 8, .inl a0_26_f)), (a0_27, .inl (a0_27_c, 48, .inr (.inl a0_27_f))), (a0_28, .inl (a0_28_c, 48, .inl a0_28_f)), (a0_29, .inl (a0_29_c, 48, .inl a0_29_f)), (a0_30, .inl (a0_30_c, 48, .inl a0_30_f)), (a0_31, .inl (a0_31_c, 48, .inl a0_31_f)), (a0_32, .inl (a0_32_c, 24, .inl a0_32_f)), (a0_33, .inl (a0_33_c, 24, .inl a0_33_f)), (a0_34, .inl (a0_34_c, 72, .inl a0_34_f)), (a0_35, .inl (a0_35_c, 24, .inl a0_35_f)), (a0_38, .inl (a0_38_c, 176, .inl a0_38_f))] ∧ Ev g (va_A [(a0, .inr (8, [.int a0_0, .int a0_1, .int a0_2, .int a0_3, .ref a0_4, .int a0_5, .int a0_6, .int a0_7, .int a0_8, .int a0_9, .int a0_10, .long a0_11, .int a0_12, .int a0_13, .int a0_14, .int a0_15, .int a0_16, .int a0_17, .ref a0_18, .ref a0_19, .ref a0_20, .ref a0_21, .ref a0_22, .ref a0_23, .ref a0_24, .ref a0_25, .ref a0_26, .ref a0_27, .ref a0_28, .ref a0_29, .ref a0_30, .ref a0_31, .ref a0_32, .ref a0_33, .ref a0_34, .ref a0_35, .long a0_36, .int a0_37, .ref a0_38, .ref a0_39, .int a0_40, .ref a0_41, .ref a0_42, .ref a0_43])), (a0_18, .inl (a0_18_c, 2, .inl a0_18_f)), (a0_19, .inl (a0_19_c, 2, .inl a0_19_f)), (a0_20, .inl (a0_20_c, 2, .inl a0_20_f)), (a0_21, .inl (a0_21_c, 2, .inl a0_21_f)), (a0_22, .inl (a0_22_c, 16, .inr (.inl a0_22_f))), (a0_23, .inl (a0_23_c, 16, .inl a0_23_f)), (a0_24, .inl (a0_24_c, 16, .inl a0_24_f)), (a0_25, .inl (a0_25_c, 8, .inr (.inl a0_25_f))), (a0_26, .inl (a0_26_c, 8, .inl a0_26_f)), (a0_27, .inl (a0_27_c, 48, .inr (.inl a0_27_f))), (a0_28, .inl (a0_28_c, 48, .inl a0_28_f)), (a0_29, .inl (a0_29_c, 48, .inl a0_29_f)), (a0_30, .inl (a0_30_c, 48, .inl a0_30_f)), (a0_31, .inl (a0_31_c, 48, .inl a0_31_f)), (a0_32, .inl (a0_32_c, 24, .inl a0_32_f)), (a0_33, .inl (a0_33_c, 24, .inl a0_33_f)), (a0_34, .inl (a0_34_c, 72, .inl a0_34_f)), (a0_35, .inl (a0_35_c, 24, .inl a0_35_f)), (a0_38, .inl (a0_38_c, 176, .inl a0_38_f))] sz) U)) (va_Qv (fun (_ : Unit) => True) (fun (_ : Unit) (t : State) => ∃ (za0_18_f : Nat → Int32) (za0_19_f : Nat → Int32) (za0_20_f : Nat → Int32) (za0_21_f : Nat → Int32) (za0_22_f : Nat → Int64) (za0_23_f : Nat → Int32) (za0_25_f : Nat → Int64) (za0_26_f : Nat → Int32) (za0_27_f : Nat → Int64) (za0_29_f : Nat → Int32) (za0_30_f : Nat → Int32) (za0_31_f : Nat → Int32) (za0_32_f : Nat → Int32) (za0_33_f : Nat → Int32) (za0_34_f : Nat → Int32) (za0_35_f : Nat → Int32) (za0_38_f : Nat → Int32), vr 0 8 za0_18_f ∧ vr 0 4 za0_19_f ∧ vr 0 24 za0_20_f ∧ vr 0 12 za0_21_f ∧ (RowOk (za0_20_f 0).toInt za0_38_f 0) ∧ (WOk za0_32_f za0_33_f 0 (za0_21_f 0).toInt) ∧ va_P (dC, dI) vwCl [(a0, .inr (8, [.int a0_0, .int a0_1, .int a0_2, .int a0_3, .ref a0_4, .int a0_5, .int a0_6, .int a0_7, .int a0_8, .int a0_9, .int a0_10, .long a0_11, .int a0_12, .int a0_13, .int a0_14, .int a0_15, .int a0_16, .int a0_17, .ref a0_18, .ref a0_19, .ref a0_20, .ref a0_21, .ref a0_22, .ref a0_23, .ref a0_24, .ref a0_25, .ref a0_26, .ref a0_27, .ref a0_28, .ref a0_29, .ref a0_30, .ref a0_31, .ref a0_32, .ref a0_33, .ref a0_34, .ref a0_35, .long a0_36, .int a0_37, .ref a0_38, .ref a0_39, .int a0_40, .ref a0_41, .ref a0_42, .ref a0_43])), (a0_18, .inl (a0_18_c, 2, .inl za0_18_f)), (a0_19, .inl (a0_19_c, 2, .inl za0_19_f)), (a0_20, .inl (a0_20_c, 2, .inl za0_20_f)), (a0_21, .inl (a0_21_c, 2, .inl za0_21_f)), (a0_22, .inl (a0_22_c, 16, .inr (.inl za0_22_f))), (a0_23, .inl (a0_23_c, 16, .inl za0_23_f)), (a0_24, .inl (a0_24_c, 16, .inl a0_24_f)), (a0_25, .inl (a0_25_c, 8, .inr (.inl za0_25_f))), (a0_26, .inl (a0_26_c, 8, .inl za0_26_f)), (a0_27, .inl (a0_27_c, 48, .inr (.inl za0_27_f))), (a0_28, .inl (a0_28_c, 48, .inl a0_28_f)), (a0_29, .inl (a0_29_c, 48, .inl za0_29_f)), (a0_30, .inl (a0_30_c, 48, .inl za0_30_f)), (a0_31, .inl (a0_31_c, 48, .inl za0_31_f)), (a0_32, .inl (a0_32_c, 24, .inl za0_32_f)), (a0_33, .inl (a0_33_c, 24, .inl za0_33_f)), (a0_34, .inl (a0_34_c, 72, .inl za0_34_f)), (a0_35, .inl (a0_35_c, 24, .inl za0_35_f)), (a0_38, .inl (a0_38_c, 176, .inl za0_38_f))] t.heap ∧ va_K (dC, dI) vwCl [] t ∧ va_D (va_A [(a0, .inr (8, [.int a0_0, .int a0_1, .int a0_2, .int a0_3, .ref a0_4, .int a0_5, .int a0_6, .int a0_7, .int a0_8, .int a0_9, .int a0_10, .long a0_11, .int a0_12, .int a0_13, .int a0_14, .int a0_15, .int a0_16, .int a0_17, .ref a0_18, .ref a0_19, .ref a0_20, .ref a0_21, .ref a0_22, .ref a0_23, .ref a0_24, .ref a0_25, .ref a0_26, .ref a0_27, .ref a0_28, .ref a0_29, .ref a0_30, .ref a0_31, .ref a0_32, .ref a0_33, .ref a0_34, .ref a0_35, .long a0_36, .int a0_37, .ref a0_38, .ref a0_39, .int a0_40, .ref a0_41, .ref a0_42, .ref a0_43])), (a0_18, .inl (a0_18_c, 2, .inl a0_18_f)), (a0_19, .inl (a0_19_c, 2, .inl a0_19_f)), (a0_20, .inl (a0_20_c, 2, .inl a0_20_f)), (a0_21, .inl (a0_21_c, 2, .inl a0_21_f)), (a0_22, .inl (a0_22_c, 16, .inr (.inl a0_22_f))), (a0_23, .inl (a0_23_c, 16, .inl a0_23_f)), (a0_24, .inl (a0_24_c, 16, .inl a0_24_f)), (a0_25, .inl (a0_25_c, 8, .inr (.inl a0_25_f))), (a0_26, .inl (a0_26_c, 8, .inl a0_26_f)), (a0_27, .inl (a0_27_c, 48, .inr (.inl a0_27_f))), (a0_28, .inl (a0_28_c, 48, .inl a0_28_f)), (a0_29, .inl (a0_29_c, 48, .inl a0_29_f)), (a0_30, .inl (a0_30_c, 48, .inl a0_30_f)), (a0_31, .inl (a0_31_c, 48, .inl a0_31_f)), (a0_32, .inl (a0_32_c, 24, .inl a0_32_f)), (a0_33, .inl (a0_33_c, 24, .inl a0_33_f)), (a0_34, .inl (a0_34_c, 72, .inl a0_34_f)), (a0_35, .inl (a0_35_c, 24, .inl a0_35_f)), (a0_38, .inl (a0_38_c, 176, .inl a0_38_f))] sz) [(a0, .inr (8, [.int a0_0, .int a0_1, .int a0_2, .int a0_3, .ref a0_4, .int a0_5, .int a0_6, .int a0_7, .int a0_8, .int a0_9, .int a0_10, .long a0_11, .int a0_12, .int a0_13, .int a0_14, .int a0_15, .int a0_16, .int a0_17, .ref a0_18, .ref a0_19, .ref a0_20, .ref a0_21, .ref a0_22, .ref a0_23, .ref a0_24, .ref a0_25, .ref a0_26, .ref a0_27, .ref a0_28, .ref a0_29, .ref a0_30, .ref a0_31, .ref a0_32, .ref a0_33, .ref a0_34, .ref a0_35, .long a0_36, .int a0_37, .ref a0_38, .ref a0_39, .int a0_40, .ref a0_41, .ref a0_42, .ref a0_43])), (a0_18, .inl (a0_18_c, 2, .inl za0_18_f)), (a0_19, .inl (a0_19_c, 2, .inl za0_19_f)), (a0_20, .inl (a0_20_c, 2, .inl za0_20_f)), (a0_21, .inl (a0_21_c, 2, .inl za0_21_f)), (a0_22, .inl (a0_22_c, 16, .inr (.inl za0_22_f))), (a0_23, .inl (a0_23_c, 16, .inl za0_23_f)), (a0_24, .inl (a0_24_c, 16, .inl a0_24_f)), (a0_25, .inl (a0_25_c, 8, .inr (.inl za0_25_f))), (a0_26, .inl (a0_26_c, 8, .inl za0_26_f)), (a0_27, .inl (a0_27_c, 48, .inr (.inl za0_27_f))), (a0_28, .inl (a0_28_c, 48, .inl a0_28_f)), (a0_29, .inl (a0_29_c, 48, .inl za0_29_f)), (a0_30, .inl (a0_30_c, 48, .inl za0_30_f)), (a0_31, .inl (a0_31_c, 48, .inl za0_31_f)), (a0_32, .inl (a0_32_c, 24, .inl za0_32_f)), (a0_33, .inl (a0_33_c, 24, .inl za0_33_f)), (a0_34, .inl (a0_34_c, 72, .inl za0_34_f)), (a0_35, .inl (a0_35_c, 24, .inl za0_35_f)), (a0_38, .inl (a0_38_c, 176, .inl za0_38_f))]) (va_A [(a0, .inr (8, [.int a0_0, .int a0_1, .int a0_2, .int a0_3, .ref a0_4, .int a0_5, .int a0_6, .int a0_7, .int a0_8, .int a0_9, .int a0_10, .long a0_11, .int a0_12, .int a0_13, .int a0_14, .int a0_15, .int a0_16, .int a0_17, .ref a0_18, .ref a0_19, .ref a0_20, .ref a0_21, .ref a0_22, .ref a0_23, .ref a0_24, .ref a0_25, .ref a0_26, .ref a0_27, .ref a0_28, .ref a0_29, .ref a0_30, .ref a0_31, .ref a0_32, .ref a0_33, .ref a0_34, .ref a0_35, .long a0_36, .int a0_37, .ref a0_38, .ref a0_39, .int a0_40, .ref a0_41, .ref a0_42, .ref a0_43])), (a0_18, .inl (a0_18_c, 2, .inl a0_18_f)), (a0_19, .inl (a0_19_c, 2, .inl a0_19_f)), (a0_20, .inl (a0_20_c, 2, .inl a0_20_f)), (a0_21, .inl (a0_21_c, 2, .inl a0_21_f)), (a0_22, .inl (a0_22_c, 16, .inr (.inl a0_22_f))), (a0_23, .inl (a0_23_c, 16, .inl a0_23_f)), (a0_24, .inl (a0_24_c, 16, .inl a0_24_f)), (a0_25, .inl (a0_25_c, 8, .inr (.inl a0_25_f))), (a0_26, .inl (a0_26_c, 8, .inl a0_26_f)), (a0_27, .inl (a0_27_c, 48, .inr (.inl a0_27_f))), (a0_28, .inl (a0_28_c, 48, .inl a0_28_f)), (a0_29, .inl (a0_29_c, 48, .inl a0_29_f)), (a0_30, .inl (a0_30_c, 48, .inl a0_30_f)), (a0_31, .inl (a0_31_c, 48, .inl a0_31_f)), (a0_32, .inl (a0_32_c, 24, .inl a0_32_f)), (a0_33, .inl (a0_33_c, 24, .inl a0_33_f)), (a0_34, .inl (a0_34_c, 72, .inl a0_34_f)), (a0_35, .inl (a0_35_c, 24, .inl a0_35_f)), (a0_38, .inl (a0_38_c, 176, .inl a0_38_f))] sz)) 0 0 (va_A [(a0, .inr (8, [.int a0_0, .int a0_1, .int a0_2, .int a0_3, .ref a0_4, .int a0_5, .int a0_6, .int a0_7, .int a0_8, .int a0_9, .int a0_10, .long a0_11, .int a0_12, .int a0_13, .int a0_14, .int a0_15, .int a0_16, .int a0_17, .ref a0_18, .ref a0_19, .ref a0_20, .ref a0_21, .ref a0_22, .ref a0_23, .ref a0_24, .ref a0_25, .ref a0_26, .ref a0_27, .ref a0_28, .ref a0_29, .ref a0_30, .ref a0_31, .ref a0_32, .ref a0_33, .ref a0_34, .ref a0_35, .long a0_36, .int a0_37, .ref a0_38, .ref a0_39, .int a0_40, .ref a0_41, .ref a0_42, .ref a0_43])), (a0_18, .inl (a0_18_c, 2, .inl a0_18_f)), (a0_19, .inl (a0_19_c, 2, .inl a0_19_f)), (a0_20, .inl (a0_20_c, 2, .inl a0_20_f)), (a0_21, .inl (a0_21_c, 2, .inl a0_21_f)), (a0_22, .inl (a0_22_c, 16, .inr (.inl a0_22_f))), (a0_23, .inl (a0_23_c, 16, .inl a0_23_f)), (a0_24, .inl (a0_24_c, 16, .inl a0_24_f)), (a0_25, .inl (a0_25_c, 8, .inr (.inl a0_25_f))), (a0_26, .inl (a0_26_c, 8, .inl a0_26_f)), (a0_27, .inl (a0_27_c, 48, .inr (.inl a0_27_f))), (a0_28, .inl (a0_28_c, 48, .inl a0_28_f)), (a0_29, .inl (a0_29_c, 48, .inl a0_29_f)), (a0_30, .inl (a0_30_c, 48, .inl a0_30_f)), (a0_31, .inl (a0_31_c, 48, .inl a0_31_f)), (a0_32, .inl (a0_32_c, 24, .inl a0_32_f)), (a0_33, .inl (a0_33_c, 24, .inl a0_33_f)), (a0_34, .inl (a0_34_c, 72, .inl a0_34_f)), (a0_35, .inl (a0_35_c, 24, .inl a0_35_f)), (a0_38, .inl (a0_38_c, 176, .inl a0_38_f))] sz) := by
  refine Met.ofW (cc := cX9_copies) (maxL := 3) (ret := none) (by decide) rfl ?_
  intro p e s m args below meth c s₁ B hml hv
  obtain ⟨rfl, hsz, hP, hK, hD0, hE⟩ := hv
  have hx := B.exec
  have hb := B.bytes
  have hr := B.returns
  have hts0 := atoms_spec (ws := (.code yX9_copies cX9_copies 3 none :: TBL)) B.pre
  have hts := fun (w : Cond) (h : w ∈ TBL) => hts0 w (List.mem_cons_of_mem _ h)
  have hown : s.vm.findClass RX9 = some m.cls := findClass_of_methodNamed B.named
  have hlocks := B.notSynchronized
  have hN := hE.1
  subst hsz
  have hD := hD0.self (sz := s.heap.size)
  generalize hAe : va_A [(a0, .inr (8, [.int a0_0, .int a0_1, .int a0_2, .int a0_3, .ref a0_4, .int a0_5, .int a0_6, .int a0_7, .int a0_8, .int a0_9, .int a0_10, .long a0_11, .int a0_12, .int a0_13, .int a0_14, .int a0_15, .int a0_16, .int a0_17, .ref a0_18, .ref a0_19, .ref a0_20, .ref a0_21, .ref a0_22, .ref a0_23, .ref a0_24, .ref a0_25, .ref a0_26, .ref a0_27, .ref a0_28, .ref a0_29, .ref a0_30, .ref a0_31, .ref a0_32, .ref a0_33, .ref a0_34, .ref a0_35, .long a0_36, .int a0_37, .ref a0_38, .ref a0_39, .int a0_40, .ref a0_41, .ref a0_42, .ref a0_43])), (a0_18, .inl (a0_18_c, 2, .inl a0_18_f)), (a0_19, .inl (a0_19_c, 2, .inl a0_19_f)), (a0_20, .inl (a0_20_c, 2, .inl a0_20_f)), (a0_21, .inl (a0_21_c, 2, .inl a0_21_f)), (a0_22, .inl (a0_22_c, 16, .inr (.inl a0_22_f))), (a0_23, .inl (a0_23_c, 16, .inl a0_23_f)), (a0_24, .inl (a0_24_c, 16, .inl a0_24_f)), (a0_25, .inl (a0_25_c, 8, .inr (.inl a0_25_f))), (a0_26, .inl (a0_26_c, 8, .inl a0_26_f)), (a0_27, .inl (a0_27_c, 48, .inr (.inl a0_27_f))), (a0_28, .inl (a0_28_c, 48, .inl a0_28_f)), (a0_29, .inl (a0_29_c, 48, .inl a0_29_f)), (a0_30, .inl (a0_30_c, 48, .inl a0_30_f)), (a0_31, .inl (a0_31_c, 48, .inl a0_31_f)), (a0_32, .inl (a0_32_c, 24, .inl a0_32_f)), (a0_33, .inl (a0_33_c, 24, .inl a0_33_f)), (a0_34, .inl (a0_34_c, 72, .inl a0_34_f)), (a0_35, .inl (a0_35_c, 24, .inl a0_35_f)), (a0_38, .inl (a0_38_c, 176, .inl a0_38_f))] s.heap.size = A at hD hE ⊢
  have hA : ∀ q : Nat, s.heap.size ≤ q → A q := fun q h => by rw [← hAe]; exact Or.inr h
  have hS : va_S A s.heap s.heap [] := va_S.rf
  replace hP : va_P (dC, dI) vwCl [(a0, .inr (8, [.int a0_0, .int a0_1, .int a0_2, .int a0_3, .ref a0_4, .int a0_5, .int a0_6, .int a0_7, .int a0_8, .int a0_9, .int a0_10, .long a0_11, .int a0_12, .int a0_13, .int a0_14, .int a0_15, .int a0_16, .int a0_17, .ref a0_18, .ref a0_19, .ref a0_20, .ref a0_21, .ref a0_22, .ref a0_23, .ref a0_24, .ref a0_25, .ref a0_26, .ref a0_27, .ref a0_28, .ref a0_29, .ref a0_30, .ref a0_31, .ref a0_32, .ref a0_33, .ref a0_34, .ref a0_35, .long a0_36, .int a0_37, .ref a0_38, .ref a0_39, .int a0_40, .ref a0_41, .ref a0_42, .ref a0_43])), (a0_18, .inl (a0_18_c, 2, .inl a0_18_f)), (a0_19, .inl (a0_19_c, 2, .inl a0_19_f)), (a0_20, .inl (a0_20_c, 2, .inl a0_20_f)), (a0_21, .inl (a0_21_c, 2, .inl a0_21_f)), (a0_22, .inl (a0_22_c, 16, .inr (.inl a0_22_f))), (a0_23, .inl (a0_23_c, 16, .inl a0_23_f)), (a0_24, .inl (a0_24_c, 16, .inl a0_24_f)), (a0_25, .inl (a0_25_c, 8, .inr (.inl a0_25_f))), (a0_26, .inl (a0_26_c, 8, .inl a0_26_f)), (a0_27, .inl (a0_27_c, 48, .inr (.inl a0_27_f))), (a0_28, .inl (a0_28_c, 48, .inl a0_28_f)), (a0_29, .inl (a0_29_c, 48, .inl a0_29_f)), (a0_30, .inl (a0_30_c, 48, .inl a0_30_f)), (a0_31, .inl (a0_31_c, 48, .inl a0_31_f)), (a0_32, .inl (a0_32_c, 24, .inl a0_32_f)), (a0_33, .inl (a0_33_c, 24, .inl a0_33_f)), (a0_34, .inl (a0_34_c, 72, .inl a0_34_f)), (a0_35, .inl (a0_35_c, 24, .inl a0_35_f)), (a0_38, .inl (a0_38_c, 176, .inl a0_38_f))] s.heap := hP
  have hl := lv_entry ([.ref a0]) (n := 3) (Nat.le_of_ble_eq_true rfl)
  rw [lg_entry_eq]
  generalize (lg_sl ([.ref a0]) ++ List.replicate (3 - (lg_sl ([.ref a0])).length) Slot.unset).toArray = ls at hl ⊢
  have hl : lv_has ls 3 [(0, .ref a0)] := hl
  have b_a0_0 := i32b a0_0
  have b_a0_1 := i32b a0_1
  have b_a0_2 := i32b a0_2
  have b_a0_3 := i32b a0_3
  have b_a0_9 := i32b a0_9
  have b_a0_10 := i32b a0_10
  have b_a0_12 := i32b a0_12
  have b_a0_13 := i32b a0_13
  have b_a0_14 := i32b a0_14
  have b_a0_15 := i32b a0_15
  have b_a0_16 := i32b a0_16
  have hp20 := vr_at h_a0_20_f (k := 1) rfl
  have hp21 := vr_at h_a0_21_f (k := 1) rfl
  refine lv_aload_n hx hb dX9_copies_0 rfl (lv_at hl 0 rfl) ?_
  refine va_get (D := (dC, dI)) (ci := 8) (v := .ref a0_18) (C := RX9) (T := TX9) (N := 44) hx hb hts inlX9 hown hK hP 0 rgL20_92b1330 rfl 18 (by decide) (hts (.fieldLink RX9 13 "ClosedUntilModel" "people" "[I") qw_434) (fun _ h9 => h9) rfl dX9_copies_1 ?_
  refine lv_iconst (v := 0) hx hb dX9_copies_4 (by decide) ?_
  refine lv_aload_n hx hb dX9_copies_5 rfl (lv_at hl 0 rfl) ?_
  refine va_get (D := (dC, dI)) (ci := 8) (v := .ref a0_18) (C := RX9) (T := TX9) (N := 44) hx hb hts inlX9 hown hK hP 0 rgL20_92b1330 rfl 18 (by decide) (hts (.fieldLink RX9 13 "ClosedUntilModel" "people" "[I") qw_434) (fun _ h9 => h9) rfl dX9_copies_6 ?_
  refine lv_iconst (v := 1) hx hb dX9_copies_9 (by decide) ?_
  refine va_iald hx hb hK hP 1 0 rgL20_98b9408 rgT19_eec4934 (vin0 (by decide)) dX9_copies_10 ?_
  refine lv_topi (fun x1 e_x1 => ?_)
  have q_x1 : x1.toInt = (a0_18_f 1).toInt := congrArg Int32.toInt e_x1
  have b_x1 : 0 ≤ x1.toInt ∧ x1.toInt ≤ 8 := vr_at (lo := 0) (hi := 8) (f := a0_18_f) h_a0_18_f e_x1
  refine va_iast hx hb hK hP hD hS 1 0 rgL20_98b9408 rgT19_eec4934 (vin0 (by decide)) dX9_copies_11 (fun H locs hP9 hD9 hS9 => ?_)
  obtain ⟨y2, e_y2⟩ : ∃ y, (upd a0_18_f (0 : Int32).toNatClampNeg x1) = y := ⟨_, rfl⟩
  clear hP hD hS
  obtain ⟨hP, hD⟩ := rgS20_01a71e7 (e := (a0_18, .inl (a0_18_c, 2, .inl y2))) hP9 hD9 (congrArg (fun z9 => (((a0_18, .inl (a0_18_c, 2, .inl z9)) : Nat × va_E))) e_y2)
  have hS := hS9; clear hP9 hD9 hS9
  have b_y2 : vr 0 8 y2 := vr_upd e_y2 h_a0_18_f (by omega)
  refine lv_aload_n hx hb dX9_copies_12 rfl (lv_at hl 0 rfl) ?_
  refine va_get (D := (dC, dI)) (ci := 8) (v := .ref a0_19) (C := RX9) (T := TX9) (N := 44) hx hb hts inlX9 hown hK hP 0 rgL20_92b1330 rfl 19 (by decide) (hts (.fieldLink RX9 17 "ClosedUntilModel" "deposits" "[I") qw_437) (fun _ h9 => h9) rfl dX9_copies_13 ?_
  refine lv_iconst (v := 0) hx hb dX9_copies_16 (by decide) ?_
  refine lv_aload_n hx hb dX9_copies_17 rfl (lv_at hl 0 rfl) ?_
  refine va_get (D := (dC, dI)) (ci := 8) (v := .ref a0_19) (C := RX9) (T := TX9) (N := 44) hx hb hts inlX9 hown hK hP 0 rgL20_92b1330 rfl 19 (by decide) (hts (.fieldLink RX9 17 "ClosedUntilModel" "deposits" "[I") qw_437) (fun _ h9 => h9) rfl dX9_copies_18 ?_
  refine lv_iconst (v := 1) hx hb dX9_copies_21 (by decide) ?_
  refine va_iald hx hb hK hP 2 1 rgL20_6a2a4dc rgT19_f3f1e30 (vin0 (by decide)) dX9_copies_22 ?_
  refine lv_topi (fun x3 e_x3 => ?_)
  have q_x3 : x3.toInt = (a0_19_f 1).toInt := congrArg Int32.toInt e_x3
  have b_x3 : 0 ≤ x3.toInt ∧ x3.toInt ≤ 4 := vr_at (lo := 0) (hi := 4) (f := a0_19_f) h_a0_19_f e_x3
  refine va_iast hx hb hK hP hD hS 2 1 rgL20_6a2a4dc rgT19_f3f1e30 (vin0 (by decide)) dX9_copies_23 (fun H locs hP9 hD9 hS9 => ?_)
  obtain ⟨y4, e_y4⟩ : ∃ y, (upd a0_19_f (0 : Int32).toNatClampNeg x3) = y := ⟨_, rfl⟩
  clear hP hD hS
  obtain ⟨hP, hD⟩ := rgS20_0ab377a (e := (a0_19, .inl (a0_19_c, 2, .inl y4))) hP9 hD9 (congrArg (fun z9 => (((a0_19, .inl (a0_19_c, 2, .inl z9)) : Nat × va_E))) e_y4)
  have hS := hS9; clear hP9 hD9 hS9
  have b_y4 : vr 0 4 y4 := vr_upd e_y4 h_a0_19_f (by omega)
  refine lv_aload_n hx hb dX9_copies_24 rfl (lv_at hl 0 rfl) ?_
  refine va_get (D := (dC, dI)) (ci := 8) (v := .ref a0_20) (C := RX9) (T := TX9) (N := 44) hx hb hts inlX9 hown hK hP 0 rgL20_92b1330 rfl 20 (by decide) (hts (.fieldLink RX9 20 "ClosedUntilModel" "pieces" "[I") qw_439) (fun _ h9 => h9) rfl dX9_copies_25 ?_
  refine lv_iconst (v := 0) hx hb dX9_copies_28 (by decide) ?_
  refine lv_aload_n hx hb dX9_copies_29 rfl (lv_at hl 0 rfl) ?_
  refine va_get (D := (dC, dI)) (ci := 8) (v := .ref a0_20) (C := RX9) (T := TX9) (N := 44) hx hb hts inlX9 hown hK hP 0 rgL20_92b1330 rfl 20 (by decide) (hts (.fieldLink RX9 20 "ClosedUntilModel" "pieces" "[I") qw_439) (fun _ h9 => h9) rfl dX9_copies_30 ?_
  refine lv_iconst (v := 1) hx hb dX9_copies_33 (by decide) ?_
  refine va_iald hx hb hK hP 3 2 rgL20_7e6d0fc rgT19_191c389 (vin0 (by decide)) dX9_copies_34 ?_
  refine lv_topi (fun x5 e_x5 => ?_)
  have q_x5 : x5.toInt = (a0_20_f 1).toInt := congrArg Int32.toInt e_x5
  have b_x5 : 0 ≤ x5.toInt ∧ x5.toInt ≤ 24 := vr_at (lo := 0) (hi := 24) (f := a0_20_f) h_a0_20_f e_x5
  refine va_iast hx hb hK hP hD hS 3 2 rgL20_7e6d0fc rgT19_191c389 (vin0 (by decide)) dX9_copies_35 (fun H locs hP9 hD9 hS9 => ?_)
  obtain ⟨y6, e_y6⟩ : ∃ y, (upd a0_20_f (0 : Int32).toNatClampNeg x5) = y := ⟨_, rfl⟩
  clear hP hD hS
  obtain ⟨hP, hD⟩ := rgS20_db1d2b0 (e := (a0_20, .inl (a0_20_c, 2, .inl y6))) hP9 hD9 (congrArg (fun z9 => (((a0_20, .inl (a0_20_c, 2, .inl z9)) : Nat × va_E))) e_y6)
  have hS := hS9; clear hP9 hD9 hS9
  have b_y6 : vr 0 24 y6 := vr_upd e_y6 h_a0_20_f (by omega)
  have hn20 : (y6 0).toInt = (a0_20_f 1).toInt := by rw [show y6 0 = x5 from upd_eq e_y6]; exact q_x5
  refine lv_aload_n hx hb dX9_copies_36 rfl (lv_at hl 0 rfl) ?_
  refine va_get (D := (dC, dI)) (ci := 8) (v := .ref a0_21) (C := RX9) (T := TX9) (N := 44) hx hb hts inlX9 hown hK hP 0 rgL20_92b1330 rfl 21 (by decide) (hts (.fieldLink RX9 23 "ClosedUntilModel" "closures" "[I") qw_501) (fun _ h9 => h9) rfl dX9_copies_37 ?_
  refine lv_iconst (v := 0) hx hb dX9_copies_40 (by decide) ?_
  refine lv_aload_n hx hb dX9_copies_41 rfl (lv_at hl 0 rfl) ?_
  refine va_get (D := (dC, dI)) (ci := 8) (v := .ref a0_21) (C := RX9) (T := TX9) (N := 44) hx hb hts inlX9 hown hK hP 0 rgL20_92b1330 rfl 21 (by decide) (hts (.fieldLink RX9 23 "ClosedUntilModel" "closures" "[I") qw_501) (fun _ h9 => h9) rfl dX9_copies_42 ?_
  refine lv_iconst (v := 1) hx hb dX9_copies_45 (by decide) ?_
  refine va_iald hx hb hK hP 4 3 rgL20_5864d77 rgT19_7765e6c (vin0 (by decide)) dX9_copies_46 ?_
  refine lv_topi (fun x7 e_x7 => ?_)
  have q_x7 : x7.toInt = (a0_21_f 1).toInt := congrArg Int32.toInt e_x7
  have b_x7 : 0 ≤ x7.toInt ∧ x7.toInt ≤ 12 := vr_at (lo := 0) (hi := 12) (f := a0_21_f) h_a0_21_f e_x7
  refine va_iast hx hb hK hP hD hS 4 3 rgL20_5864d77 rgT19_7765e6c (vin0 (by decide)) dX9_copies_47 (fun H locs hP9 hD9 hS9 => ?_)
  obtain ⟨y8, e_y8⟩ : ∃ y, (upd a0_21_f (0 : Int32).toNatClampNeg x7) = y := ⟨_, rfl⟩
  clear hP hD hS
  obtain ⟨hP, hD⟩ := rgS20_3493c29 (e := (a0_21, .inl (a0_21_c, 2, .inl y8))) hP9 hD9 (congrArg (fun z9 => (((a0_21, .inl (a0_21_c, 2, .inl z9)) : Nat × va_E))) e_y8)
  have hS := hS9; clear hP9 hD9 hS9
  have b_y8 : vr 0 12 y8 := vr_upd e_y8 h_a0_21_f (by omega)
  have hn21 : (y8 0).toInt = (a0_21_f 1).toInt := by rw [show y8 0 = x7 from upd_eq e_y8]; exact q_x7
  refine lv_iconst (v := 0) hx hb dX9_copies_48 (by decide) ?_
  refine lv_istore_n (lv' := [(1, .int 0), (0, .ref a0)]) hx hb dX9_copies_49 rfl hl (by decide) rfl (fun ls hl => ?_)
  have qc0 : (0 : Int32).toInt = 0 := by decide
  refine wloop (fun n H locs ls => ∃ (l50_1 : Int32) (w50_5 : Nat → Int64) (w50_6 : Nat → Int32) (w50_19 : Nat → Int32), n = (2147483647 - l50_1.toInt).toNat ∧ (0 ≤ l50_1.toInt) ∧ lv_has ls 3 [(1, .int l50_1), (0, .ref a0)] ∧ va_P (dC, dI) vwCl [(a0, .inr (8, [.int a0_0, .int a0_1, .int a0_2, .int a0_3, .ref a0_4, .int a0_5, .int a0_6, .int a0_7, .int a0_8, .int a0_9, .int a0_10, .long a0_11, .int a0_12, .int a0_13, .int a0_14, .int a0_15, .int a0_16, .int a0_17, .ref a0_18, .ref a0_19, .ref a0_20, .ref a0_21, .ref a0_22, .ref a0_23, .ref a0_24, .ref a0_25, .ref a0_26, .ref a0_27, .ref a0_28, .ref a0_29, .ref a0_30, .ref a0_31, .ref a0_32, .ref a0_33, .ref a0_34, .ref a0_35, .long a0_36, .int a0_37, .ref a0_38, .ref a0_39, .int a0_40, .ref a0_41, .ref a0_42, .ref a0_43])), (a0_18, .inl (a0_18_c, 2, .inl y2)), (a0_19, .inl (a0_19_c, 2, .inl y4)), (a0_20, .inl (a0_20_c, 2, .inl y6)), (a0_21, .inl (a0_21_c, 2, .inl y8)), (a0_22, .inl (a0_22_c, 16, .inr (.inl w50_5))), (a0_23, .inl (a0_23_c, 16, .inl w50_6)), (a0_24, .inl (a0_24_c, 16, .inl a0_24_f)), (a0_25, .inl (a0_25_c, 8, .inr (.inl a0_25_f))), (a0_26, .inl (a0_26_c, 8, .inl a0_26_f)), (a0_27, .inl (a0_27_c, 48, .inr (.inl a0_27_f))), (a0_28, .inl (a0_28_c, 48, .inl a0_28_f)), (a0_29, .inl (a0_29_c, 48, .inl a0_29_f)), (a0_30, .inl (a0_30_c, 48, .inl a0_30_f)), (a0_31, .inl (a0_31_c, 48, .inl a0_31_f)), (a0_32, .inl (a0_32_c, 24, .inl a0_32_f)), (a0_33, .inl (a0_33_c, 24, .inl a0_33_f)), (a0_34, .inl (a0_34_c, 72, .inl a0_34_f)), (a0_35, .inl (a0_35_c, 24, .inl a0_35_f)), (a0_38, .inl (a0_38_c, 176, .inl w50_19))] H ∧ va_D A [(a0, .inr (8, [.int a0_0, .int a0_1, .int a0_2, .int a0_3, .ref a0_4, .int a0_5, .int a0_6, .int a0_7, .int a0_8, .int a0_9, .int a0_10, .long a0_11, .int a0_12, .int a0_13, .int a0_14, .int a0_15, .int a0_16, .int a0_17, .ref a0_18, .ref a0_19, .ref a0_20, .ref a0_21, .ref a0_22, .ref a0_23, .ref a0_24, .ref a0_25, .ref a0_26, .ref a0_27, .ref a0_28, .ref a0_29, .ref a0_30, .ref a0_31, .ref a0_32, .ref a0_33, .ref a0_34, .ref a0_35, .long a0_36, .int a0_37, .ref a0_38, .ref a0_39, .int a0_40, .ref a0_41, .ref a0_42, .ref a0_43])), (a0_18, .inl (a0_18_c, 2, .inl y2)), (a0_19, .inl (a0_19_c, 2, .inl y4)), (a0_20, .inl (a0_20_c, 2, .inl y6)), (a0_21, .inl (a0_21_c, 2, .inl y8)), (a0_22, .inl (a0_22_c, 16, .inr (.inl w50_5))), (a0_23, .inl (a0_23_c, 16, .inl w50_6)), (a0_24, .inl (a0_24_c, 16, .inl a0_24_f)), (a0_25, .inl (a0_25_c, 8, .inr (.inl a0_25_f))), (a0_26, .inl (a0_26_c, 8, .inl a0_26_f)), (a0_27, .inl (a0_27_c, 48, .inr (.inl a0_27_f))), (a0_28, .inl (a0_28_c, 48, .inl a0_28_f)), (a0_29, .inl (a0_29_c, 48, .inl a0_29_f)), (a0_30, .inl (a0_30_c, 48, .inl a0_30_f)), (a0_31, .inl (a0_31_c, 48, .inl a0_31_f)), (a0_32, .inl (a0_32_c, 24, .inl a0_32_f)), (a0_33, .inl (a0_33_c, 24, .inl a0_33_f)), (a0_34, .inl (a0_34_c, 72, .inl a0_34_f)), (a0_35, .inl (a0_35_c, 24, .inl a0_35_f)), (a0_38, .inl (a0_38_c, 176, .inl w50_19))] ∧ va_S A s.heap H locs) ?_ ((2147483647 - (0 : Int32).toInt).toNat) _ _ _ ⟨0, a0_22_f, a0_23_f, a0_38_f, rfl, (by omega), lv_sub hl [0, 1] rfl, hP, hD, hS⟩
  intro n50 H locs ls hI ih50
  obtain ⟨l50_1, w50_5, w50_6, w50_19, hn50, g_l50_1, hl, hP, hD, hS⟩ := hI
  have b_l50_1 := i32b l50_1
  refine lv_iload_n hx hb dX9_copies_50 rfl (lv_at hl 0 rfl) ?_
  refine lv_bipush (v := 8) hx hb dX9_copies_51 (by decide) ?_
  refine lv_icmp_ge (tgt := 110) hx hb dX9_copies_53 (by decide) (fun c53_9 => ?_) (fun c53_9 => ?_)
  · have c53_9 : 8 ≤ l50_1.toInt := (cv_le (by decide) rfl).mp c53_9
    refine lv_iconst (v := 0) hx hb dX9_copies_110 (by decide) ?_
    refine lv_istore_n (lv' := [(1, .int 0), (0, .ref a0)]) hx hb dX9_copies_111 rfl hl (by decide) rfl (fun ls hl => ?_)
    have qc0 : (0 : Int32).toInt = 0 := by decide
    refine wloop (fun n H locs ls => ∃ (l112_1 : Int32) (w112_8 : Nat → Int64) (w112_9 : Nat → Int32), n = (2147483647 - l112_1.toInt).toNat ∧ (0 ≤ l112_1.toInt) ∧ lv_has ls 3 [(1, .int l112_1), (0, .ref a0)] ∧ va_P (dC, dI) vwCl [(a0, .inr (8, [.int a0_0, .int a0_1, .int a0_2, .int a0_3, .ref a0_4, .int a0_5, .int a0_6, .int a0_7, .int a0_8, .int a0_9, .int a0_10, .long a0_11, .int a0_12, .int a0_13, .int a0_14, .int a0_15, .int a0_16, .int a0_17, .ref a0_18, .ref a0_19, .ref a0_20, .ref a0_21, .ref a0_22, .ref a0_23, .ref a0_24, .ref a0_25, .ref a0_26, .ref a0_27, .ref a0_28, .ref a0_29, .ref a0_30, .ref a0_31, .ref a0_32, .ref a0_33, .ref a0_34, .ref a0_35, .long a0_36, .int a0_37, .ref a0_38, .ref a0_39, .int a0_40, .ref a0_41, .ref a0_42, .ref a0_43])), (a0_18, .inl (a0_18_c, 2, .inl y2)), (a0_19, .inl (a0_19_c, 2, .inl y4)), (a0_20, .inl (a0_20_c, 2, .inl y6)), (a0_21, .inl (a0_21_c, 2, .inl y8)), (a0_22, .inl (a0_22_c, 16, .inr (.inl w50_5))), (a0_23, .inl (a0_23_c, 16, .inl w50_6)), (a0_24, .inl (a0_24_c, 16, .inl a0_24_f)), (a0_25, .inl (a0_25_c, 8, .inr (.inl w112_8))), (a0_26, .inl (a0_26_c, 8, .inl w112_9)), (a0_27, .inl (a0_27_c, 48, .inr (.inl a0_27_f))), (a0_28, .inl (a0_28_c, 48, .inl a0_28_f)), (a0_29, .inl (a0_29_c, 48, .inl a0_29_f)), (a0_30, .inl (a0_30_c, 48, .inl a0_30_f)), (a0_31, .inl (a0_31_c, 48, .inl a0_31_f)), (a0_32, .inl (a0_32_c, 24, .inl a0_32_f)), (a0_33, .inl (a0_33_c, 24, .inl a0_33_f)), (a0_34, .inl (a0_34_c, 72, .inl a0_34_f)), (a0_35, .inl (a0_35_c, 24, .inl a0_35_f)), (a0_38, .inl (a0_38_c, 176, .inl w50_19))] H ∧ va_D A [(a0, .inr (8, [.int a0_0, .int a0_1, .int a0_2, .int a0_3, .ref a0_4, .int a0_5, .int a0_6, .int a0_7, .int a0_8, .int a0_9, .int a0_10, .long a0_11, .int a0_12, .int a0_13, .int a0_14, .int a0_15, .int a0_16, .int a0_17, .ref a0_18, .ref a0_19, .ref a0_20, .ref a0_21, .ref a0_22, .ref a0_23, .ref a0_24, .ref a0_25, .ref a0_26, .ref a0_27, .ref a0_28, .ref a0_29, .ref a0_30, .ref a0_31, .ref a0_32, .ref a0_33, .ref a0_34, .ref a0_35, .long a0_36, .int a0_37, .ref a0_38, .ref a0_39, .int a0_40, .ref a0_41, .ref a0_42, .ref a0_43])), (a0_18, .inl (a0_18_c, 2, .inl y2)), (a0_19, .inl (a0_19_c, 2, .inl y4)), (a0_20, .inl (a0_20_c, 2, .inl y6)), (a0_21, .inl (a0_21_c, 2, .inl y8)), (a0_22, .inl (a0_22_c, 16, .inr (.inl w50_5))), (a0_23, .inl (a0_23_c, 16, .inl w50_6)), (a0_24, .inl (a0_24_c, 16, .inl a0_24_f)), (a0_25, .inl (a0_25_c, 8, .inr (.inl w112_8))), (a0_26, .inl (a0_26_c, 8, .inl w112_9)), (a0_27, .inl (a0_27_c, 48, .inr (.inl a0_27_f))), (a0_28, .inl (a0_28_c, 48, .inl a0_28_f)), (a0_29, .inl (a0_29_c, 48, .inl a0_29_f)), (a0_30, .inl (a0_30_c, 48, .inl a0_30_f)), (a0_31, .inl (a0_31_c, 48, .inl a0_31_f)), (a0_32, .inl (a0_32_c, 24, .inl a0_32_f)), (a0_33, .inl (a0_33_c, 24, .inl a0_33_f)), (a0_34, .inl (a0_34_c, 72, .inl a0_34_f)), (a0_35, .inl (a0_35_c, 24, .inl a0_35_f)), (a0_38, .inl (a0_38_c, 176, .inl w50_19))] ∧ va_S A s.heap H locs) ?_ ((2147483647 - (0 : Int32).toInt).toNat) _ _ _ ⟨0, a0_25_f, a0_26_f, rfl, (by omega), lv_sub hl [0, 1] rfl, hP, hD, hS⟩
    intro n112 H locs ls hI ih112
    obtain ⟨l112_1, w112_8, w112_9, hn112, g_l112_1, hl, hP, hD, hS⟩ := hI
    have b_l112_1 := i32b l112_1
    refine lv_iload_n hx hb dX9_copies_112 rfl (lv_at hl 0 rfl) ?_
    refine lv_iconst (v := 4) hx hb dX9_copies_113 (by decide) ?_
    refine lv_icmp_ge (tgt := 151) hx hb dX9_copies_114 (by decide) (fun c114_10 => ?_) (fun c114_10 => ?_)
    · have c114_10 : 4 ≤ l112_1.toInt := (cv_le (by decide) rfl).mp c114_10
      refine lv_iconst (v := 0) hx hb dX9_copies_151 (by decide) ?_
      refine lv_istore_n (lv' := [(1, .int 0), (0, .ref a0)]) hx hb dX9_copies_152 rfl hl (by decide) rfl (fun ls hl => ?_)
      have qc0 : (0 : Int32).toInt = 0 := by decide
      refine wloop (fun n H locs ls => ∃ (l153_1 : Int32) (w153_10 : Nat → Int64) (w153_12 : Nat → Int32) (w153_13 : Nat → Int32) (w153_14 : Nat → Int32) (w153_19 : Nat → Int32), n = (2147483647 - l153_1.toInt).toNat ∧ (0 ≤ l153_1.toInt) ∧ (CPY w153_19 a0_28_f 0 24 l153_1) ∧ lv_has ls 3 [(1, .int l153_1), (0, .ref a0)] ∧ va_P (dC, dI) vwCl [(a0, .inr (8, [.int a0_0, .int a0_1, .int a0_2, .int a0_3, .ref a0_4, .int a0_5, .int a0_6, .int a0_7, .int a0_8, .int a0_9, .int a0_10, .long a0_11, .int a0_12, .int a0_13, .int a0_14, .int a0_15, .int a0_16, .int a0_17, .ref a0_18, .ref a0_19, .ref a0_20, .ref a0_21, .ref a0_22, .ref a0_23, .ref a0_24, .ref a0_25, .ref a0_26, .ref a0_27, .ref a0_28, .ref a0_29, .ref a0_30, .ref a0_31, .ref a0_32, .ref a0_33, .ref a0_34, .ref a0_35, .long a0_36, .int a0_37, .ref a0_38, .ref a0_39, .int a0_40, .ref a0_41, .ref a0_42, .ref a0_43])), (a0_18, .inl (a0_18_c, 2, .inl y2)), (a0_19, .inl (a0_19_c, 2, .inl y4)), (a0_20, .inl (a0_20_c, 2, .inl y6)), (a0_21, .inl (a0_21_c, 2, .inl y8)), (a0_22, .inl (a0_22_c, 16, .inr (.inl w50_5))), (a0_23, .inl (a0_23_c, 16, .inl w50_6)), (a0_24, .inl (a0_24_c, 16, .inl a0_24_f)), (a0_25, .inl (a0_25_c, 8, .inr (.inl w112_8))), (a0_26, .inl (a0_26_c, 8, .inl w112_9)), (a0_27, .inl (a0_27_c, 48, .inr (.inl w153_10))), (a0_28, .inl (a0_28_c, 48, .inl a0_28_f)), (a0_29, .inl (a0_29_c, 48, .inl w153_12)), (a0_30, .inl (a0_30_c, 48, .inl w153_13)), (a0_31, .inl (a0_31_c, 48, .inl w153_14)), (a0_32, .inl (a0_32_c, 24, .inl a0_32_f)), (a0_33, .inl (a0_33_c, 24, .inl a0_33_f)), (a0_34, .inl (a0_34_c, 72, .inl a0_34_f)), (a0_35, .inl (a0_35_c, 24, .inl a0_35_f)), (a0_38, .inl (a0_38_c, 176, .inl w153_19))] H ∧ va_D A [(a0, .inr (8, [.int a0_0, .int a0_1, .int a0_2, .int a0_3, .ref a0_4, .int a0_5, .int a0_6, .int a0_7, .int a0_8, .int a0_9, .int a0_10, .long a0_11, .int a0_12, .int a0_13, .int a0_14, .int a0_15, .int a0_16, .int a0_17, .ref a0_18, .ref a0_19, .ref a0_20, .ref a0_21, .ref a0_22, .ref a0_23, .ref a0_24, .ref a0_25, .ref a0_26, .ref a0_27, .ref a0_28, .ref a0_29, .ref a0_30, .ref a0_31, .ref a0_32, .ref a0_33, .ref a0_34, .ref a0_35, .long a0_36, .int a0_37, .ref a0_38, .ref a0_39, .int a0_40, .ref a0_41, .ref a0_42, .ref a0_43])), (a0_18, .inl (a0_18_c, 2, .inl y2)), (a0_19, .inl (a0_19_c, 2, .inl y4)), (a0_20, .inl (a0_20_c, 2, .inl y6)), (a0_21, .inl (a0_21_c, 2, .inl y8)), (a0_22, .inl (a0_22_c, 16, .inr (.inl w50_5))), (a0_23, .inl (a0_23_c, 16, .inl w50_6)), (a0_24, .inl (a0_24_c, 16, .inl a0_24_f)), (a0_25, .inl (a0_25_c, 8, .inr (.inl w112_8))), (a0_26, .inl (a0_26_c, 8, .inl w112_9)), (a0_27, .inl (a0_27_c, 48, .inr (.inl w153_10))), (a0_28, .inl (a0_28_c, 48, .inl a0_28_f)), (a0_29, .inl (a0_29_c, 48, .inl w153_12)), (a0_30, .inl (a0_30_c, 48, .inl w153_13)), (a0_31, .inl (a0_31_c, 48, .inl w153_14)), (a0_32, .inl (a0_32_c, 24, .inl a0_32_f)), (a0_33, .inl (a0_33_c, 24, .inl a0_33_f)), (a0_34, .inl (a0_34_c, 72, .inl a0_34_f)), (a0_35, .inl (a0_35_c, 24, .inl a0_35_f)), (a0_38, .inl (a0_38_c, 176, .inl w153_19))] ∧ va_S A s.heap H locs) ?_ ((2147483647 - (0 : Int32).toInt).toNat) _ _ _ ⟨0, a0_27_f, a0_29_f, a0_30_f, a0_31_f, w50_19, rfl, (by omega), (CPY.nil (by omega)), lv_sub hl [0, 1] rfl, hP, hD, hS⟩
      intro n153 H locs ls hI ih153
      obtain ⟨l153_1, w153_10, w153_12, w153_13, w153_14, w153_19, hn153, g_l153_1, gx153_0, hl, hP, hD, hS⟩ := hI
      have b_l153_1 := i32b l153_1
      refine lv_iload_n hx hb dX9_copies_153 rfl (lv_at hl 0 rfl) ?_
      refine lv_bipush (v := 24) hx hb dX9_copies_154 (by decide) ?_
      refine lv_icmp_ge (tgt := 240) hx hb dX9_copies_156 (by decide) (fun c156_11 => ?_) (fun c156_11 => ?_)
      · have c156_11 : 24 ≤ l153_1.toInt := (cv_le (by decide) rfl).mp c156_11
        refine lv_iconst (v := 0) hx hb dX9_copies_240 (by decide) ?_
        refine lv_istore_n (lv' := [(1, .int 0), (0, .ref a0)]) hx hb dX9_copies_241 rfl hl (by decide) rfl (fun ls hl => ?_)
        have qc0 : (0 : Int32).toInt = 0 := by decide
        refine wloop (fun n H locs ls => ∃ (l242_1 : Int32) (w242_15 : Nat → Int32) (w242_16 : Nat → Int32) (w242_17 : Nat → Int32) (w242_18 : Nat → Int32) (w242_19 : Nat → Int32), n = (2147483647 - l242_1.toInt).toNat ∧ (0 ≤ l242_1.toInt) ∧ (CPS w242_15 a0_32_f 12 l242_1) ∧ (CPS w242_16 a0_33_f 12 l242_1) ∧ (KP 24 w153_19 w242_19) ∧ (MZ w242_19 l242_1) ∧ lv_has ls 3 [(1, .int l242_1), (0, .ref a0)] ∧ va_P (dC, dI) vwCl [(a0, .inr (8, [.int a0_0, .int a0_1, .int a0_2, .int a0_3, .ref a0_4, .int a0_5, .int a0_6, .int a0_7, .int a0_8, .int a0_9, .int a0_10, .long a0_11, .int a0_12, .int a0_13, .int a0_14, .int a0_15, .int a0_16, .int a0_17, .ref a0_18, .ref a0_19, .ref a0_20, .ref a0_21, .ref a0_22, .ref a0_23, .ref a0_24, .ref a0_25, .ref a0_26, .ref a0_27, .ref a0_28, .ref a0_29, .ref a0_30, .ref a0_31, .ref a0_32, .ref a0_33, .ref a0_34, .ref a0_35, .long a0_36, .int a0_37, .ref a0_38, .ref a0_39, .int a0_40, .ref a0_41, .ref a0_42, .ref a0_43])), (a0_18, .inl (a0_18_c, 2, .inl y2)), (a0_19, .inl (a0_19_c, 2, .inl y4)), (a0_20, .inl (a0_20_c, 2, .inl y6)), (a0_21, .inl (a0_21_c, 2, .inl y8)), (a0_22, .inl (a0_22_c, 16, .inr (.inl w50_5))), (a0_23, .inl (a0_23_c, 16, .inl w50_6)), (a0_24, .inl (a0_24_c, 16, .inl a0_24_f)), (a0_25, .inl (a0_25_c, 8, .inr (.inl w112_8))), (a0_26, .inl (a0_26_c, 8, .inl w112_9)), (a0_27, .inl (a0_27_c, 48, .inr (.inl w153_10))), (a0_28, .inl (a0_28_c, 48, .inl a0_28_f)), (a0_29, .inl (a0_29_c, 48, .inl w153_12)), (a0_30, .inl (a0_30_c, 48, .inl w153_13)), (a0_31, .inl (a0_31_c, 48, .inl w153_14)), (a0_32, .inl (a0_32_c, 24, .inl w242_15)), (a0_33, .inl (a0_33_c, 24, .inl w242_16)), (a0_34, .inl (a0_34_c, 72, .inl w242_17)), (a0_35, .inl (a0_35_c, 24, .inl w242_18)), (a0_38, .inl (a0_38_c, 176, .inl w242_19))] H ∧ va_D A [(a0, .inr (8, [.int a0_0, .int a0_1, .int a0_2, .int a0_3, .ref a0_4, .int a0_5, .int a0_6, .int a0_7, .int a0_8, .int a0_9, .int a0_10, .long a0_11, .int a0_12, .int a0_13, .int a0_14, .int a0_15, .int a0_16, .int a0_17, .ref a0_18, .ref a0_19, .ref a0_20, .ref a0_21, .ref a0_22, .ref a0_23, .ref a0_24, .ref a0_25, .ref a0_26, .ref a0_27, .ref a0_28, .ref a0_29, .ref a0_30, .ref a0_31, .ref a0_32, .ref a0_33, .ref a0_34, .ref a0_35, .long a0_36, .int a0_37, .ref a0_38, .ref a0_39, .int a0_40, .ref a0_41, .ref a0_42, .ref a0_43])), (a0_18, .inl (a0_18_c, 2, .inl y2)), (a0_19, .inl (a0_19_c, 2, .inl y4)), (a0_20, .inl (a0_20_c, 2, .inl y6)), (a0_21, .inl (a0_21_c, 2, .inl y8)), (a0_22, .inl (a0_22_c, 16, .inr (.inl w50_5))), (a0_23, .inl (a0_23_c, 16, .inl w50_6)), (a0_24, .inl (a0_24_c, 16, .inl a0_24_f)), (a0_25, .inl (a0_25_c, 8, .inr (.inl w112_8))), (a0_26, .inl (a0_26_c, 8, .inl w112_9)), (a0_27, .inl (a0_27_c, 48, .inr (.inl w153_10))), (a0_28, .inl (a0_28_c, 48, .inl a0_28_f)), (a0_29, .inl (a0_29_c, 48, .inl w153_12)), (a0_30, .inl (a0_30_c, 48, .inl w153_13)), (a0_31, .inl (a0_31_c, 48, .inl w153_14)), (a0_32, .inl (a0_32_c, 24, .inl w242_15)), (a0_33, .inl (a0_33_c, 24, .inl w242_16)), (a0_34, .inl (a0_34_c, 72, .inl w242_17)), (a0_35, .inl (a0_35_c, 24, .inl w242_18)), (a0_38, .inl (a0_38_c, 176, .inl w242_19))] ∧ va_S A s.heap H locs) ?_ ((2147483647 - (0 : Int32).toInt).toNat) _ _ _ ⟨0, a0_32_f, a0_33_f, a0_34_f, a0_35_f, w153_19, rfl, (by omega), (CPS.nil (by omega)), (CPS.nil (by omega)), KP.rf, (MZ.nil (by omega)), lv_sub hl [0, 1] rfl, hP, hD, hS⟩
        intro n242 H locs ls hI ih242
        obtain ⟨l242_1, w242_15, w242_16, w242_17, w242_18, w242_19, hn242, g_l242_1, gx242_0, gx242_1, gx242_2, gx242_3, hl, hP, hD, hS⟩ := hI
        have b_l242_1 := i32b l242_1
        refine lv_iload_n hx hb dX9_copies_242 rfl (lv_at hl 0 rfl) ?_
        refine lv_bipush (v := 12) hx hb dX9_copies_243 (by decide) ?_
        refine lv_icmp_ge (tgt := 355) hx hb dX9_copies_245 (by decide) (fun c245_12 => ?_) (fun c245_12 => ?_)
        · have c245_12 : 12 ≤ l242_1.toInt := (cv_le (by decide) rfl).mp c245_12
          refine W.widen (k := 0) (n := 0) (Nat.le_of_ble_eq_true rfl) (Nat.le_of_ble_eq_true rfl) ?_
          have hP9 := hP
          have hD9 := hD
          have hK9 := (rgK19_5d0c76c hK)
          have hf9_0 : vr 0 8 y2 := b_y2
          have hf9_1 : vr 0 4 y4 := b_y4
          have hf9_2 : vr 0 24 y6 := b_y6
          have hf9_3 : vr 0 12 y8 := b_y8
          have hf9_4 : (RowOk (y6 0).toInt w242_19 0) := RowOk.copied hpt hn20 (by omega) gx153_0 (by omega) gx242_2 gx242_3 (by omega)
          have hf9_5 : (WOk w242_15 w242_16 0 (y8 0).toInt) := WOk.copied hwo hn21 (by omega) gx242_0 gx242_1 (by omega)
          exact W.vret hx hb hr (fun t ht hW => ⟨⟨(), rfl, trivial, y2, y4, y6, y8, w50_5, w50_6, w112_8, w112_9, w153_10, w153_12, w153_13, w153_14, w242_15, w242_16, w242_17, w242_18, w242_19, hf9_0, hf9_1, hf9_2, hf9_3, hf9_4, hf9_5, atB ht hP9, va_K.moved hW.alike hK9, hD9⟩, hS.F ht⟩) hS.2.2 dX9_copies_355
        · have c245_12 : ¬ (12 ≤ l242_1.toInt) := mt (cv_le (by decide) rfl).mpr c245_12
          refine lv_aload_n hx hb dX9_copies_248 rfl (lv_at hl 1 rfl) ?_
          refine va_get (D := (dC, dI)) (ci := 8) (v := .ref a0_32) (C := RX9) (T := TX9) (N := 44) hx hb hts inlX9 hown hK hP 0 rgL20_92b1330 rfl 32 (by decide) (hts (.fieldLink RX9 57 "ClosedUntilModel" "sort" "[I") qw_507) (fun _ h9 => h9) rfl dX9_copies_249 ?_
          refine lv_iload_n hx hb dX9_copies_252 rfl (lv_at hl 0 rfl) ?_
          refine lv_aload_n hx hb dX9_copies_253 rfl (lv_at hl 1 rfl) ?_
          refine va_get (D := (dC, dI)) (ci := 8) (v := .ref a0_32) (C := RX9) (T := TX9) (N := 44) hx hb hts inlX9 hown hK hP 0 rgL20_92b1330 rfl 32 (by decide) (hts (.fieldLink RX9 57 "ClosedUntilModel" "sort" "[I") qw_507) (fun _ h9 => h9) rfl dX9_copies_254 ?_
          refine lv_bipush (v := 12) hx hb dX9_copies_257 (by decide) ?_
          refine lv_iload_n hx hb dX9_copies_259 rfl (lv_at hl 0 rfl) ?_
          refine lv_iadd hx hb dX9_copies_260 ?_
          refine lv_topi (fun x13 e_x13 => ?_)
          try have e_x13 := ti_add e_x13 (show (12 : Int32).toInt = 12 by decide) rfl (by omega)
          refine va_iald hx hb hK hP 15 14 rgL20_2e0ba9c rgT19_bec2977 (vinI (by omega) (by omega)) dX9_copies_261 ?_
          refine lv_topi (fun x14 e_x14 => ?_)
          have q_x14 := congrArg Int32.toInt e_x14
          have b_x14 := i32b x14
          refine va_iast hx hb hK hP hD hS 15 14 rgL20_2e0ba9c rgT19_bec2977 (vinI (by omega) (by omega)) dX9_copies_262 (fun H locs hP9 hD9 hS9 => ?_)
          obtain ⟨y15, e_y15⟩ : ∃ y, (upd w242_15 l242_1.toNatClampNeg x14) = y := ⟨_, rfl⟩
          clear hP hD hS
          obtain ⟨hP, hD⟩ := rgS20_ad1e417 (e := (a0_32, .inl (a0_32_c, 24, .inl y15))) hP9 hD9 (congrArg (fun z9 => (((a0_32, .inl (a0_32_c, 24, .inl z9)) : Nat × va_E))) e_y15)
          have hS := hS9; clear hP9 hD9 hS9
          refine lv_aload_n hx hb dX9_copies_263 rfl (lv_at hl 1 rfl) ?_
          refine va_get (D := (dC, dI)) (ci := 8) (v := .ref a0_33) (C := RX9) (T := TX9) (N := 44) hx hb hts inlX9 hown hK hP 0 rgL20_92b1330 rfl 33 (by decide) (hts (.fieldLink RX9 60 "ClosedUntilModel" "whom" "[I") qw_508) (fun _ h9 => h9) rfl dX9_copies_264 ?_
          refine lv_iload_n hx hb dX9_copies_267 rfl (lv_at hl 0 rfl) ?_
          refine lv_aload_n hx hb dX9_copies_268 rfl (lv_at hl 1 rfl) ?_
          refine va_get (D := (dC, dI)) (ci := 8) (v := .ref a0_33) (C := RX9) (T := TX9) (N := 44) hx hb hts inlX9 hown hK hP 0 rgL20_92b1330 rfl 33 (by decide) (hts (.fieldLink RX9 60 "ClosedUntilModel" "whom" "[I") qw_508) (fun _ h9 => h9) rfl dX9_copies_269 ?_
          refine lv_bipush (v := 12) hx hb dX9_copies_272 (by decide) ?_
          refine lv_iload_n hx hb dX9_copies_274 rfl (lv_at hl 0 rfl) ?_
          refine lv_iadd hx hb dX9_copies_275 ?_
          refine lv_topi (fun x16 e_x16 => ?_)
          try have e_x16 := ti_add e_x16 (show (12 : Int32).toInt = 12 by decide) rfl (by omega)
          refine va_iald hx hb hK hP 16 15 rgL20_aab71df rgT19_0339bd1 (vinI (by omega) (by omega)) dX9_copies_276 ?_
          refine lv_topi (fun x17 e_x17 => ?_)
          have q_x17 := congrArg Int32.toInt e_x17
          have b_x17 := i32b x17
          refine va_iast hx hb hK hP hD hS 16 15 rgL20_aab71df rgT19_0339bd1 (vinI (by omega) (by omega)) dX9_copies_277 (fun H locs hP9 hD9 hS9 => ?_)
          obtain ⟨y18, e_y18⟩ : ∃ y, (upd w242_16 l242_1.toNatClampNeg x17) = y := ⟨_, rfl⟩
          clear hP hD hS
          obtain ⟨hP, hD⟩ := rgS20_3428cc9 (e := (a0_33, .inl (a0_33_c, 24, .inl y18))) hP9 hD9 (congrArg (fun z9 => (((a0_33, .inl (a0_33_c, 24, .inl z9)) : Nat × va_E))) e_y18)
          have hS := hS9; clear hP9 hD9 hS9
          refine lv_aload_n hx hb dX9_copies_278 rfl (lv_at hl 1 rfl) ?_
          refine va_get (D := (dC, dI)) (ci := 8) (v := .ref a0_35) (C := RX9) (T := TX9) (N := 44) hx hb hts inlX9 hown hK hP 0 rgL20_92b1330 rfl 35 (by decide) (hts (.fieldLink RX9 66 "ClosedUntilModel" "isWhole" "[Z") qw_522) (fun _ h9 => h9) rfl dX9_copies_279 ?_
          refine lv_iload_n hx hb dX9_copies_282 rfl (lv_at hl 0 rfl) ?_
          refine lv_aload_n hx hb dX9_copies_283 rfl (lv_at hl 1 rfl) ?_
          refine va_get (D := (dC, dI)) (ci := 8) (v := .ref a0_35) (C := RX9) (T := TX9) (N := 44) hx hb hts inlX9 hown hK hP 0 rgL20_92b1330 rfl 35 (by decide) (hts (.fieldLink RX9 66 "ClosedUntilModel" "isWhole" "[Z") qw_522) (fun _ h9 => h9) rfl dX9_copies_284 ?_
          refine lv_bipush (v := 12) hx hb dX9_copies_287 (by decide) ?_
          refine lv_iload_n hx hb dX9_copies_289 rfl (lv_at hl 0 rfl) ?_
          refine lv_iadd hx hb dX9_copies_290 ?_
          refine lv_topi (fun x19 e_x19 => ?_)
          try have e_x19 := ti_add e_x19 (show (12 : Int32).toInt = 12 by decide) rfl (by omega)
          refine va_zald hx hb hK hP 18 17 rgL20_83ed5d7 rgT19_08d11fe (vinI (by omega) (by omega)) dX9_copies_291 ?_
          refine lv_topi (fun x20 e_x20 => ?_)
          have b_x20 := i32b x20
          refine va_zast hx hb hK hP hD hS 18 17 rgL20_83ed5d7 rgT19_08d11fe (vinI (by omega) (by omega)) dX9_copies_292 (fun H locs hP9 hD9 hS9 => ?_)
          obtain ⟨y21, e_y21⟩ : ∃ y, (upd w242_18 l242_1.toNatClampNeg (vp_nar .boolean x20)) = y := ⟨_, rfl⟩
          clear hP hD hS
          obtain ⟨hP, hD⟩ := rgS20_136840b (e := (a0_35, .inl (a0_35_c, 24, .inl y21))) hP9 hD9 (congrArg (fun z9 => (((a0_35, .inl (a0_35_c, 24, .inl z9)) : Nat × va_E))) e_y21)
          have hS := hS9; clear hP9 hD9 hS9
          refine lv_iconst (v := 0) hx hb dX9_copies_293 (by decide) ?_
          refine lv_istore_n (lv' := [(2, .int 0), (1, .int l242_1), (0, .ref a0)]) hx hb dX9_copies_294 rfl hl (by decide) rfl (fun ls hl => ?_)
          have qc0 : (0 : Int32).toInt = 0 := by decide
          refine wloop (fun n H locs ls => ∃ (l295_2 : Int32) (w295_17 : Nat → Int32), n = (2147483647 - l295_2.toInt).toNat ∧ (0 ≤ l295_2.toInt) ∧ lv_has ls 3 [(2, .int l295_2), (1, .int l242_1), (0, .ref a0)] ∧ va_P (dC, dI) vwCl [(a0, .inr (8, [.int a0_0, .int a0_1, .int a0_2, .int a0_3, .ref a0_4, .int a0_5, .int a0_6, .int a0_7, .int a0_8, .int a0_9, .int a0_10, .long a0_11, .int a0_12, .int a0_13, .int a0_14, .int a0_15, .int a0_16, .int a0_17, .ref a0_18, .ref a0_19, .ref a0_20, .ref a0_21, .ref a0_22, .ref a0_23, .ref a0_24, .ref a0_25, .ref a0_26, .ref a0_27, .ref a0_28, .ref a0_29, .ref a0_30, .ref a0_31, .ref a0_32, .ref a0_33, .ref a0_34, .ref a0_35, .long a0_36, .int a0_37, .ref a0_38, .ref a0_39, .int a0_40, .ref a0_41, .ref a0_42, .ref a0_43])), (a0_18, .inl (a0_18_c, 2, .inl y2)), (a0_19, .inl (a0_19_c, 2, .inl y4)), (a0_20, .inl (a0_20_c, 2, .inl y6)), (a0_21, .inl (a0_21_c, 2, .inl y8)), (a0_22, .inl (a0_22_c, 16, .inr (.inl w50_5))), (a0_23, .inl (a0_23_c, 16, .inl w50_6)), (a0_24, .inl (a0_24_c, 16, .inl a0_24_f)), (a0_25, .inl (a0_25_c, 8, .inr (.inl w112_8))), (a0_26, .inl (a0_26_c, 8, .inl w112_9)), (a0_27, .inl (a0_27_c, 48, .inr (.inl w153_10))), (a0_28, .inl (a0_28_c, 48, .inl a0_28_f)), (a0_29, .inl (a0_29_c, 48, .inl w153_12)), (a0_30, .inl (a0_30_c, 48, .inl w153_13)), (a0_31, .inl (a0_31_c, 48, .inl w153_14)), (a0_32, .inl (a0_32_c, 24, .inl y15)), (a0_33, .inl (a0_33_c, 24, .inl y18)), (a0_34, .inl (a0_34_c, 72, .inl w295_17)), (a0_35, .inl (a0_35_c, 24, .inl y21)), (a0_38, .inl (a0_38_c, 176, .inl w242_19))] H ∧ va_D A [(a0, .inr (8, [.int a0_0, .int a0_1, .int a0_2, .int a0_3, .ref a0_4, .int a0_5, .int a0_6, .int a0_7, .int a0_8, .int a0_9, .int a0_10, .long a0_11, .int a0_12, .int a0_13, .int a0_14, .int a0_15, .int a0_16, .int a0_17, .ref a0_18, .ref a0_19, .ref a0_20, .ref a0_21, .ref a0_22, .ref a0_23, .ref a0_24, .ref a0_25, .ref a0_26, .ref a0_27, .ref a0_28, .ref a0_29, .ref a0_30, .ref a0_31, .ref a0_32, .ref a0_33, .ref a0_34, .ref a0_35, .long a0_36, .int a0_37, .ref a0_38, .ref a0_39, .int a0_40, .ref a0_41, .ref a0_42, .ref a0_43])), (a0_18, .inl (a0_18_c, 2, .inl y2)), (a0_19, .inl (a0_19_c, 2, .inl y4)), (a0_20, .inl (a0_20_c, 2, .inl y6)), (a0_21, .inl (a0_21_c, 2, .inl y8)), (a0_22, .inl (a0_22_c, 16, .inr (.inl w50_5))), (a0_23, .inl (a0_23_c, 16, .inl w50_6)), (a0_24, .inl (a0_24_c, 16, .inl a0_24_f)), (a0_25, .inl (a0_25_c, 8, .inr (.inl w112_8))), (a0_26, .inl (a0_26_c, 8, .inl w112_9)), (a0_27, .inl (a0_27_c, 48, .inr (.inl w153_10))), (a0_28, .inl (a0_28_c, 48, .inl a0_28_f)), (a0_29, .inl (a0_29_c, 48, .inl w153_12)), (a0_30, .inl (a0_30_c, 48, .inl w153_13)), (a0_31, .inl (a0_31_c, 48, .inl w153_14)), (a0_32, .inl (a0_32_c, 24, .inl y15)), (a0_33, .inl (a0_33_c, 24, .inl y18)), (a0_34, .inl (a0_34_c, 72, .inl w295_17)), (a0_35, .inl (a0_35_c, 24, .inl y21)), (a0_38, .inl (a0_38_c, 176, .inl w242_19))] ∧ va_S A s.heap H locs) ?_ ((2147483647 - (0 : Int32).toInt).toNat) _ _ _ ⟨0, w242_17, rfl, (by omega), lv_sub hl [0, 1, 2] rfl, hP, hD, hS⟩
          intro n295 H locs ls hI ih295
          obtain ⟨l295_2, w295_17, hn295, g_l295_2, hl, hP, hD, hS⟩ := hI
          have b_l295_2 := i32b l295_2
          refine lv_iload_n hx hb dX9_copies_295 rfl (lv_at hl 0 rfl) ?_
          refine lv_iconst (v := 3) hx hb dX9_copies_296 (by decide) ?_
          refine lv_icmp_ge (tgt := 329) hx hb dX9_copies_297 (by decide) (fun c297_22 => ?_) (fun c297_22 => ?_)
          · have c297_22 : 3 ≤ l295_2.toInt := (cv_le (by decide) rfl).mp c297_22
            refine lv_aload_n hx hb dX9_copies_329 rfl (lv_at hl 2 rfl) ?_
            refine va_get (D := (dC, dI)) (ci := 8) (v := .ref a0_38) (C := RX9) (T := TX9) (N := 44) hx hb hts inlX9 hown hK hP 0 rgL20_92b1330 rfl 38 (by decide) (hts (.fieldLink RX9 70 "ClosedUntilModel" "s" "[I") qw_502) (fun _ h9 => h9) rfl dX9_copies_330 ?_
            refine lv_bipush (v := 32) hx hb dX9_copies_333 (by decide) ?_
            refine lv_iload_n hx hb dX9_copies_335 rfl (lv_at hl 1 rfl) ?_
            refine lv_iadd hx hb dX9_copies_336 ?_
            refine lv_topi (fun x23 e_x23 => ?_)
            try have e_x23 := ti_add e_x23 (show (32 : Int32).toInt = 32 by decide) rfl (by omega)
            refine lv_iconst (v := (-1)) hx hb dX9_copies_337 (by decide) ?_
            refine va_iast hx hb hK hP hD hS 19 18 rgL20_1a9ed69 rgT19_50760a5 (vinI (by omega) (by omega)) dX9_copies_338 (fun H locs hP9 hD9 hS9 => ?_)
            obtain ⟨y24, e_y24⟩ : ∃ y, (upd w242_19 x23.toNatClampNeg ((-1))) = y := ⟨_, rfl⟩
            clear hP hD hS
            obtain ⟨hP, hD⟩ := rgS20_c0590b9 (e := (a0_38, .inl (a0_38_c, 176, .inl y24))) hP9 hD9 (congrArg (fun z9 => (((a0_38, .inl (a0_38_c, 176, .inl z9)) : Nat × va_E))) e_y24)
            have hS := hS9; clear hP9 hD9 hS9
            refine lv_aload_n hx hb dX9_copies_339 rfl (lv_at hl 2 rfl) ?_
            refine va_get (D := (dC, dI)) (ci := 8) (v := .ref a0_38) (C := RX9) (T := TX9) (N := 44) hx hb hts inlX9 hown hK hP 0 rgL20_92b1330 rfl 38 (by decide) (hts (.fieldLink RX9 70 "ClosedUntilModel" "s" "[I") qw_502) (fun _ h9 => h9) rfl dX9_copies_340 ?_
            refine lv_bipush (v := 44) hx hb dX9_copies_343 (by decide) ?_
            refine lv_iload_n hx hb dX9_copies_345 rfl (lv_at hl 1 rfl) ?_
            refine lv_iadd hx hb dX9_copies_346 ?_
            refine lv_topi (fun x25 e_x25 => ?_)
            try have e_x25 := ti_add e_x25 (show (44 : Int32).toInt = 44 by decide) rfl (by omega)
            refine lv_iconst (v := 0) hx hb dX9_copies_347 (by decide) ?_
            refine va_iast hx hb hK hP hD hS 19 18 rgL20_1a9ed69 rgT19_50760a5 (vinI (by omega) (by omega)) dX9_copies_348 (fun H locs hP9 hD9 hS9 => ?_)
            obtain ⟨y26, e_y26⟩ : ∃ y, (upd y24 x25.toNatClampNeg (0)) = y := ⟨_, rfl⟩
            clear hP hD hS
            obtain ⟨hP, hD⟩ := rgS20_c0590b9 (e := (a0_38, .inl (a0_38_c, 176, .inl y26))) hP9 hD9 (congrArg (fun z9 => (((a0_38, .inl (a0_38_c, 176, .inl z9)) : Nat × va_E))) e_y26)
            have hS := hS9; clear hP9 hD9 hS9
            obtain ⟨x27, e_x27⟩ : ∃ y : Int32, y = l242_1 + 1 := ⟨_, rfl⟩
            refine lv_iinc (v := x27) (lv' := [(1, .int x27), (2, .int l295_2), (0, .ref a0)]) hx hb dX9_copies_349 hl (k := 1) rfl (by rw [e_x27]; rfl) (by decide) rfl (fun ls hl => ?_)
            try have e_x27 := ti_add e_x27 rfl (show (1 : Int32).toInt = 1 by decide) (by omega)
            refine lv_goto (tgt := 242) hx hb dX9_copies_352 (by decide) ?_
            exact ih242 ((2147483647 - x27.toInt).toNat) _ _ _ (by omega) ⟨x27, y15, y18, w295_17, y21, y26, rfl, (by omega), (CPS.step gx242_0 e_y15 e_x14 (by omega) (by omega) (by omega)), (CPS.step gx242_1 e_y18 e_x17 (by omega) (by omega) (by omega)), (kp_step (kp_step gx242_2 e_y24 (kI (by omega))) e_y26 (kI (by omega))), (MZ.step gx242_3 e_y24 e_y26 (by omega) (by omega) (by decide) (by omega) (by omega)), lv_sub hl [0, 2] rfl, hP, hD, hS⟩
          · have c297_22 : ¬ (3 ≤ l295_2.toInt) := mt (cv_le (by decide) rfl).mpr c297_22
            refine lv_aload_n hx hb dX9_copies_300 rfl (lv_at hl 2 rfl) ?_
            refine va_get (D := (dC, dI)) (ci := 8) (v := .ref a0_34) (C := RX9) (T := TX9) (N := 44) hx hb hts inlX9 hown hK hP 0 rgL20_92b1330 rfl 34 (by decide) (hts (.fieldLink RX9 63 "ClosedUntilModel" "years" "[I") qw_516) (fun _ h9 => h9) rfl dX9_copies_301 ?_
            refine lv_iconst (v := 3) hx hb dX9_copies_304 (by decide) ?_
            refine lv_iload_n hx hb dX9_copies_305 rfl (lv_at hl 1 rfl) ?_
            refine lv_imul hx hb dX9_copies_306 ?_
            refine lv_topi (fun x28 e_x28 => ?_)
            try have e_x28 := ti_mul e_x28 (show (3 : Int32).toInt = 3 by decide) rfl (by omega)
            refine lv_iload_n hx hb dX9_copies_307 rfl (lv_at hl 0 rfl) ?_
            refine lv_iadd hx hb dX9_copies_308 ?_
            refine lv_topi (fun x29 e_x29 => ?_)
            try have e_x29 := ti_add e_x29 rfl rfl (by omega)
            refine lv_aload_n hx hb dX9_copies_309 rfl (lv_at hl 2 rfl) ?_
            refine va_get (D := (dC, dI)) (ci := 8) (v := .ref a0_34) (C := RX9) (T := TX9) (N := 44) hx hb hts inlX9 hown hK hP 0 rgL20_92b1330 rfl 34 (by decide) (hts (.fieldLink RX9 63 "ClosedUntilModel" "years" "[I") qw_516) (fun _ h9 => h9) rfl dX9_copies_310 ?_
            refine lv_iconst (v := 3) hx hb dX9_copies_313 (by decide) ?_
            refine lv_bipush (v := 12) hx hb dX9_copies_314 (by decide) ?_
            refine lv_iload_n hx hb dX9_copies_316 rfl (lv_at hl 1 rfl) ?_
            refine lv_iadd hx hb dX9_copies_317 ?_
            refine lv_topi (fun x30 e_x30 => ?_)
            try have e_x30 := ti_add e_x30 (show (12 : Int32).toInt = 12 by decide) rfl (by omega)
            refine lv_imul hx hb dX9_copies_318 ?_
            refine lv_topi (fun x31 e_x31 => ?_)
            try have e_x31 := ti_mul e_x31 (show (3 : Int32).toInt = 3 by decide) rfl (by omega)
            refine lv_iload_n hx hb dX9_copies_319 rfl (lv_at hl 0 rfl) ?_
            refine lv_iadd hx hb dX9_copies_320 ?_
            refine lv_topi (fun x32 e_x32 => ?_)
            try have e_x32 := ti_add e_x32 rfl rfl (by omega)
            refine va_iald hx hb hK hP 17 16 rgL20_aa7134e rgT19_6defc39 (vinI (by omega) (by omega)) dX9_copies_321 ?_
            refine lv_topi (fun x33 e_x33 => ?_)
            have q_x33 := congrArg Int32.toInt e_x33
            have b_x33 := i32b x33
            refine va_iast hx hb hK hP hD hS 17 16 rgL20_aa7134e rgT19_6defc39 (vinI (by omega) (by omega)) dX9_copies_322 (fun H locs hP9 hD9 hS9 => ?_)
            obtain ⟨y34, e_y34⟩ : ∃ y, (upd w295_17 x29.toNatClampNeg x33) = y := ⟨_, rfl⟩
            clear hP hD hS
            obtain ⟨hP, hD⟩ := rgS20_d676ddc (e := (a0_34, .inl (a0_34_c, 72, .inl y34))) hP9 hD9 (congrArg (fun z9 => (((a0_34, .inl (a0_34_c, 72, .inl z9)) : Nat × va_E))) e_y34)
            have hS := hS9; clear hP9 hD9 hS9
            obtain ⟨x35, e_x35⟩ : ∃ y : Int32, y = l295_2 + 1 := ⟨_, rfl⟩
            refine lv_iinc (v := x35) (lv' := [(2, .int x35), (1, .int l242_1), (0, .ref a0)]) hx hb dX9_copies_323 hl (k := 0) rfl (by rw [e_x35]; rfl) (by decide) rfl (fun ls hl => ?_)
            try have e_x35 := ti_add e_x35 rfl (show (1 : Int32).toInt = 1 by decide) (by omega)
            refine lv_goto (tgt := 295) hx hb dX9_copies_326 (by decide) ?_
            exact ih295 ((2147483647 - x35.toInt).toNat) _ _ _ (by omega) ⟨x35, y34, rfl, (by omega), lv_sub hl [0, 1, 2] rfl, hP, hD, hS⟩
      · have c156_11 : ¬ (24 ≤ l153_1.toInt) := mt (cv_le (by decide) rfl).mpr c156_11
        refine lv_aload_n hx hb dX9_copies_159 rfl (lv_at hl 1 rfl) ?_
        refine va_get (D := (dC, dI)) (ci := 8) (v := .ref a0_27) (C := RX9) (T := TX9) (N := 44) hx hb hts inlX9 hown hK hP 0 rgL20_92b1330 rfl 27 (by decide) (hts (.fieldLink RX9 42 "ClosedUntilModel" "pieceName" "[J") qw_440) (fun _ h9 => h9) rfl dX9_copies_160 ?_
        refine lv_iload_n hx hb dX9_copies_163 rfl (lv_at hl 0 rfl) ?_
        refine lv_aload_n hx hb dX9_copies_164 rfl (lv_at hl 1 rfl) ?_
        refine va_get (D := (dC, dI)) (ci := 8) (v := .ref a0_27) (C := RX9) (T := TX9) (N := 44) hx hb hts inlX9 hown hK hP 0 rgL20_92b1330 rfl 27 (by decide) (hts (.fieldLink RX9 42 "ClosedUntilModel" "pieceName" "[J") qw_440) (fun _ h9 => h9) rfl dX9_copies_165 ?_
        refine lv_bipush (v := 24) hx hb dX9_copies_168 (by decide) ?_
        refine lv_iload_n hx hb dX9_copies_170 rfl (lv_at hl 0 rfl) ?_
        refine lv_iadd hx hb dX9_copies_171 ?_
        refine lv_topi (fun x36 e_x36 => ?_)
        try have e_x36 := ti_add e_x36 (show (24 : Int32).toInt = 24 by decide) rfl (by omega)
        refine va_lald hx hb hK hP 10 9 rgL20_93d7cc0 rgT19_dfef25e (vinI (by omega) (by omega)) dX9_copies_172 ?_
        refine lv_topl (fun x37 e_x37 => ?_)
        refine va_last hx hb hK hP hD hS 10 9 rgL20_93d7cc0 rgT19_dfef25e (vinI (by omega) (by omega)) dX9_copies_173 (fun H locs hP9 hD9 hS9 => ?_)
        obtain ⟨y38, e_y38⟩ : ∃ y, (vp_updL w153_10 l153_1.toNatClampNeg x37) = y := ⟨_, rfl⟩
        clear hP hD hS
        obtain ⟨hP, hD⟩ := rgS20_78105c8 (e := (a0_27, .inl (a0_27_c, 48, .inr (.inl y38)))) hP9 hD9 (congrArg (fun z9 => (((a0_27, .inl (a0_27_c, 48, .inr (.inl z9))) : Nat × va_E))) e_y38)
        have hS := hS9; clear hP9 hD9 hS9
        refine lv_aload_n hx hb dX9_copies_174 rfl (lv_at hl 1 rfl) ?_
        refine va_get (D := (dC, dI)) (ci := 8) (v := .ref a0_38) (C := RX9) (T := TX9) (N := 44) hx hb hts inlX9 hown hK hP 0 rgL20_92b1330 rfl 38 (by decide) (hts (.fieldLink RX9 70 "ClosedUntilModel" "s" "[I") qw_502) (fun _ h9 => h9) rfl dX9_copies_175 ?_
        refine lv_iload_n hx hb dX9_copies_178 rfl (lv_at hl 0 rfl) ?_
        refine lv_aload_n hx hb dX9_copies_179 rfl (lv_at hl 1 rfl) ?_
        refine va_get (D := (dC, dI)) (ci := 8) (v := .ref a0_28) (C := RX9) (T := TX9) (N := 44) hx hb hts inlX9 hown hK hP 0 rgL20_92b1330 rfl 28 (by decide) (hts (.fieldLink RX9 45 "ClosedUntilModel" "parentTold" "[I") qw_567) (fun _ h9 => h9) rfl dX9_copies_180 ?_
        refine lv_bipush (v := 24) hx hb dX9_copies_183 (by decide) ?_
        refine lv_iload_n hx hb dX9_copies_185 rfl (lv_at hl 0 rfl) ?_
        refine lv_iadd hx hb dX9_copies_186 ?_
        refine lv_topi (fun x39 e_x39 => ?_)
        try have e_x39 := ti_add e_x39 (show (24 : Int32).toInt = 24 by decide) rfl (by omega)
        refine va_iald hx hb hK hP 11 10 rgL20_8e7598e rgT19_f816c9a (vinI (by omega) (by omega)) dX9_copies_187 ?_
        refine lv_topi (fun x40 e_x40 => ?_)
        have q_x40 := congrArg Int32.toInt e_x40
        have b_x40 := i32b x40
        refine va_iast hx hb hK hP hD hS 19 18 rgL20_1a9ed69 rgT19_50760a5 (vinI (by omega) (by omega)) dX9_copies_188 (fun H locs hP9 hD9 hS9 => ?_)
        obtain ⟨y41, e_y41⟩ : ∃ y, (upd w153_19 l153_1.toNatClampNeg x40) = y := ⟨_, rfl⟩
        clear hP hD hS
        obtain ⟨hP, hD⟩ := rgS20_c0590b9 (e := (a0_38, .inl (a0_38_c, 176, .inl y41))) hP9 hD9 (congrArg (fun z9 => (((a0_38, .inl (a0_38_c, 176, .inl z9)) : Nat × va_E))) e_y41)
        have hS := hS9; clear hP9 hD9 hS9
        refine lv_aload_n hx hb dX9_copies_189 rfl (lv_at hl 1 rfl) ?_
        refine va_get (D := (dC, dI)) (ci := 8) (v := .ref a0_29) (C := RX9) (T := TX9) (N := 44) hx hb hts inlX9 hown hK hP 0 rgL20_92b1330 rfl 29 (by decide) (hts (.fieldLink RX9 48 "ClosedUntilModel" "lastDay" "[I") qw_515) (fun _ h9 => h9) rfl dX9_copies_190 ?_
        refine lv_iload_n hx hb dX9_copies_193 rfl (lv_at hl 0 rfl) ?_
        refine lv_aload_n hx hb dX9_copies_194 rfl (lv_at hl 1 rfl) ?_
        refine va_get (D := (dC, dI)) (ci := 8) (v := .ref a0_29) (C := RX9) (T := TX9) (N := 44) hx hb hts inlX9 hown hK hP 0 rgL20_92b1330 rfl 29 (by decide) (hts (.fieldLink RX9 48 "ClosedUntilModel" "lastDay" "[I") qw_515) (fun _ h9 => h9) rfl dX9_copies_195 ?_
        refine lv_bipush (v := 24) hx hb dX9_copies_198 (by decide) ?_
        refine lv_iload_n hx hb dX9_copies_200 rfl (lv_at hl 0 rfl) ?_
        refine lv_iadd hx hb dX9_copies_201 ?_
        refine lv_topi (fun x42 e_x42 => ?_)
        try have e_x42 := ti_add e_x42 (show (24 : Int32).toInt = 24 by decide) rfl (by omega)
        refine va_iald hx hb hK hP 12 11 rgL20_d380c3c rgT19_5ec770f (vinI (by omega) (by omega)) dX9_copies_202 ?_
        refine lv_topi (fun x43 e_x43 => ?_)
        have q_x43 := congrArg Int32.toInt e_x43
        have b_x43 := i32b x43
        refine va_iast hx hb hK hP hD hS 12 11 rgL20_d380c3c rgT19_5ec770f (vinI (by omega) (by omega)) dX9_copies_203 (fun H locs hP9 hD9 hS9 => ?_)
        obtain ⟨y44, e_y44⟩ : ∃ y, (upd w153_12 l153_1.toNatClampNeg x43) = y := ⟨_, rfl⟩
        clear hP hD hS
        obtain ⟨hP, hD⟩ := rgS20_3a23334 (e := (a0_29, .inl (a0_29_c, 48, .inl y44))) hP9 hD9 (congrArg (fun z9 => (((a0_29, .inl (a0_29_c, 48, .inl z9)) : Nat × va_E))) e_y44)
        have hS := hS9; clear hP9 hD9 hS9
        refine lv_aload_n hx hb dX9_copies_204 rfl (lv_at hl 1 rfl) ?_
        refine va_get (D := (dC, dI)) (ci := 8) (v := .ref a0_30) (C := RX9) (T := TX9) (N := 44) hx hb hts inlX9 hown hK hP 0 rgL20_92b1330 rfl 30 (by decide) (hts (.fieldLink RX9 51 "ClosedUntilModel" "ofPeople" "[I") qw_500) (fun _ h9 => h9) rfl dX9_copies_205 ?_
        refine lv_iload_n hx hb dX9_copies_208 rfl (lv_at hl 0 rfl) ?_
        refine lv_aload_n hx hb dX9_copies_209 rfl (lv_at hl 1 rfl) ?_
        refine va_get (D := (dC, dI)) (ci := 8) (v := .ref a0_30) (C := RX9) (T := TX9) (N := 44) hx hb hts inlX9 hown hK hP 0 rgL20_92b1330 rfl 30 (by decide) (hts (.fieldLink RX9 51 "ClosedUntilModel" "ofPeople" "[I") qw_500) (fun _ h9 => h9) rfl dX9_copies_210 ?_
        refine lv_bipush (v := 24) hx hb dX9_copies_213 (by decide) ?_
        refine lv_iload_n hx hb dX9_copies_215 rfl (lv_at hl 0 rfl) ?_
        refine lv_iadd hx hb dX9_copies_216 ?_
        refine lv_topi (fun x45 e_x45 => ?_)
        try have e_x45 := ti_add e_x45 (show (24 : Int32).toInt = 24 by decide) rfl (by omega)
        refine va_iald hx hb hK hP 13 12 rgL20_985a49d rgT19_442d6e7 (vinI (by omega) (by omega)) dX9_copies_217 ?_
        refine lv_topi (fun x46 e_x46 => ?_)
        have q_x46 := congrArg Int32.toInt e_x46
        have b_x46 := i32b x46
        refine va_iast hx hb hK hP hD hS 13 12 rgL20_985a49d rgT19_442d6e7 (vinI (by omega) (by omega)) dX9_copies_218 (fun H locs hP9 hD9 hS9 => ?_)
        obtain ⟨y47, e_y47⟩ : ∃ y, (upd w153_13 l153_1.toNatClampNeg x46) = y := ⟨_, rfl⟩
        clear hP hD hS
        obtain ⟨hP, hD⟩ := rgS20_cee6227 (e := (a0_30, .inl (a0_30_c, 48, .inl y47))) hP9 hD9 (congrArg (fun z9 => (((a0_30, .inl (a0_30_c, 48, .inl z9)) : Nat × va_E))) e_y47)
        have hS := hS9; clear hP9 hD9 hS9
        refine lv_aload_n hx hb dX9_copies_219 rfl (lv_at hl 1 rfl) ?_
        refine va_get (D := (dC, dI)) (ci := 8) (v := .ref a0_31) (C := RX9) (T := TX9) (N := 44) hx hb hts inlX9 hown hK hP 0 rgL20_92b1330 rfl 31 (by decide) (hts (.fieldLink RX9 54 "ClosedUntilModel" "ofDeposit" "[I") qw_509) (fun _ h9 => h9) rfl dX9_copies_220 ?_
        refine lv_iload_n hx hb dX9_copies_223 rfl (lv_at hl 0 rfl) ?_
        refine lv_aload_n hx hb dX9_copies_224 rfl (lv_at hl 1 rfl) ?_
        refine va_get (D := (dC, dI)) (ci := 8) (v := .ref a0_31) (C := RX9) (T := TX9) (N := 44) hx hb hts inlX9 hown hK hP 0 rgL20_92b1330 rfl 31 (by decide) (hts (.fieldLink RX9 54 "ClosedUntilModel" "ofDeposit" "[I") qw_509) (fun _ h9 => h9) rfl dX9_copies_225 ?_
        refine lv_bipush (v := 24) hx hb dX9_copies_228 (by decide) ?_
        refine lv_iload_n hx hb dX9_copies_230 rfl (lv_at hl 0 rfl) ?_
        refine lv_iadd hx hb dX9_copies_231 ?_
        refine lv_topi (fun x48 e_x48 => ?_)
        try have e_x48 := ti_add e_x48 (show (24 : Int32).toInt = 24 by decide) rfl (by omega)
        refine va_iald hx hb hK hP 14 13 rgL20_db22842 rgT19_f7bb8bd (vinI (by omega) (by omega)) dX9_copies_232 ?_
        refine lv_topi (fun x49 e_x49 => ?_)
        have q_x49 := congrArg Int32.toInt e_x49
        have b_x49 := i32b x49
        refine va_iast hx hb hK hP hD hS 14 13 rgL20_db22842 rgT19_f7bb8bd (vinI (by omega) (by omega)) dX9_copies_233 (fun H locs hP9 hD9 hS9 => ?_)
        obtain ⟨y50, e_y50⟩ : ∃ y, (upd w153_14 l153_1.toNatClampNeg x49) = y := ⟨_, rfl⟩
        clear hP hD hS
        obtain ⟨hP, hD⟩ := rgS20_13c4b3f (e := (a0_31, .inl (a0_31_c, 48, .inl y50))) hP9 hD9 (congrArg (fun z9 => (((a0_31, .inl (a0_31_c, 48, .inl z9)) : Nat × va_E))) e_y50)
        have hS := hS9; clear hP9 hD9 hS9
        obtain ⟨x51, e_x51⟩ : ∃ y : Int32, y = l153_1 + 1 := ⟨_, rfl⟩
        refine lv_iinc (v := x51) (lv' := [(1, .int x51), (0, .ref a0)]) hx hb dX9_copies_234 hl (k := 0) rfl (by rw [e_x51]; rfl) (by decide) rfl (fun ls hl => ?_)
        try have e_x51 := ti_add e_x51 rfl (show (1 : Int32).toInt = 1 by decide) (by omega)
        refine lv_goto (tgt := 153) hx hb dX9_copies_237 (by decide) ?_
        exact ih153 ((2147483647 - x51.toInt).toNat) _ _ _ (by omega) ⟨x51, y38, y44, y47, y50, y41, rfl, (by omega), (CPY.step gx153_0 e_y41 e_x40 (by omega) (by omega) (by omega) (by omega)), lv_sub hl [0, 1] rfl, hP, hD, hS⟩
    · have c114_10 : ¬ (4 ≤ l112_1.toInt) := mt (cv_le (by decide) rfl).mpr c114_10
      refine lv_aload_n hx hb dX9_copies_117 rfl (lv_at hl 1 rfl) ?_
      refine va_get (D := (dC, dI)) (ci := 8) (v := .ref a0_25) (C := RX9) (T := TX9) (N := 44) hx hb hts inlX9 hown hK hP 0 rgL20_92b1330 rfl 25 (by decide) (hts (.fieldLink RX9 36 "ClosedUntilModel" "depositName" "[J") qw_438) (fun _ h9 => h9) rfl dX9_copies_118 ?_
      refine lv_iload_n hx hb dX9_copies_121 rfl (lv_at hl 0 rfl) ?_
      refine lv_aload_n hx hb dX9_copies_122 rfl (lv_at hl 1 rfl) ?_
      refine va_get (D := (dC, dI)) (ci := 8) (v := .ref a0_25) (C := RX9) (T := TX9) (N := 44) hx hb hts inlX9 hown hK hP 0 rgL20_92b1330 rfl 25 (by decide) (hts (.fieldLink RX9 36 "ClosedUntilModel" "depositName" "[J") qw_438) (fun _ h9 => h9) rfl dX9_copies_123 ?_
      refine lv_iconst (v := 4) hx hb dX9_copies_126 (by decide) ?_
      refine lv_iload_n hx hb dX9_copies_127 rfl (lv_at hl 0 rfl) ?_
      refine lv_iadd hx hb dX9_copies_128 ?_
      refine lv_topi (fun x52 e_x52 => ?_)
      try have e_x52 := ti_add e_x52 (show (4 : Int32).toInt = 4 by decide) rfl (by omega)
      refine va_lald hx hb hK hP 8 7 rgL20_4b87b17 rgT19_33ed7b7 (vinI (by omega) (by omega)) dX9_copies_129 ?_
      refine lv_topl (fun x53 e_x53 => ?_)
      refine va_last hx hb hK hP hD hS 8 7 rgL20_4b87b17 rgT19_33ed7b7 (vinI (by omega) (by omega)) dX9_copies_130 (fun H locs hP9 hD9 hS9 => ?_)
      obtain ⟨y54, e_y54⟩ : ∃ y, (vp_updL w112_8 l112_1.toNatClampNeg x53) = y := ⟨_, rfl⟩
      clear hP hD hS
      obtain ⟨hP, hD⟩ := rgS20_0a675b7 (e := (a0_25, .inl (a0_25_c, 8, .inr (.inl y54)))) hP9 hD9 (congrArg (fun z9 => (((a0_25, .inl (a0_25_c, 8, .inr (.inl z9))) : Nat × va_E))) e_y54)
      have hS := hS9; clear hP9 hD9 hS9
      refine lv_aload_n hx hb dX9_copies_131 rfl (lv_at hl 1 rfl) ?_
      refine va_get (D := (dC, dI)) (ci := 8) (v := .ref a0_26) (C := RX9) (T := TX9) (N := 44) hx hb hts inlX9 hown hK hP 0 rgL20_92b1330 rfl 26 (by decide) (hts (.fieldLink RX9 39 "ClosedUntilModel" "depositDay" "[I") qw_517) (fun _ h9 => h9) rfl dX9_copies_132 ?_
      refine lv_iload_n hx hb dX9_copies_135 rfl (lv_at hl 0 rfl) ?_
      refine lv_aload_n hx hb dX9_copies_136 rfl (lv_at hl 1 rfl) ?_
      refine va_get (D := (dC, dI)) (ci := 8) (v := .ref a0_26) (C := RX9) (T := TX9) (N := 44) hx hb hts inlX9 hown hK hP 0 rgL20_92b1330 rfl 26 (by decide) (hts (.fieldLink RX9 39 "ClosedUntilModel" "depositDay" "[I") qw_517) (fun _ h9 => h9) rfl dX9_copies_137 ?_
      refine lv_iconst (v := 4) hx hb dX9_copies_140 (by decide) ?_
      refine lv_iload_n hx hb dX9_copies_141 rfl (lv_at hl 0 rfl) ?_
      refine lv_iadd hx hb dX9_copies_142 ?_
      refine lv_topi (fun x55 e_x55 => ?_)
      try have e_x55 := ti_add e_x55 (show (4 : Int32).toInt = 4 by decide) rfl (by omega)
      refine va_iald hx hb hK hP 9 8 rgL20_8dcf85c rgT19_24c9316 (vinI (by omega) (by omega)) dX9_copies_143 ?_
      refine lv_topi (fun x56 e_x56 => ?_)
      have q_x56 := congrArg Int32.toInt e_x56
      have b_x56 := i32b x56
      refine va_iast hx hb hK hP hD hS 9 8 rgL20_8dcf85c rgT19_24c9316 (vinI (by omega) (by omega)) dX9_copies_144 (fun H locs hP9 hD9 hS9 => ?_)
      obtain ⟨y57, e_y57⟩ : ∃ y, (upd w112_9 l112_1.toNatClampNeg x56) = y := ⟨_, rfl⟩
      clear hP hD hS
      obtain ⟨hP, hD⟩ := rgS20_caef012 (e := (a0_26, .inl (a0_26_c, 8, .inl y57))) hP9 hD9 (congrArg (fun z9 => (((a0_26, .inl (a0_26_c, 8, .inl z9)) : Nat × va_E))) e_y57)
      have hS := hS9; clear hP9 hD9 hS9
      obtain ⟨x58, e_x58⟩ : ∃ y : Int32, y = l112_1 + 1 := ⟨_, rfl⟩
      refine lv_iinc (v := x58) (lv' := [(1, .int x58), (0, .ref a0)]) hx hb dX9_copies_145 hl (k := 0) rfl (by rw [e_x58]; rfl) (by decide) rfl (fun ls hl => ?_)
      try have e_x58 := ti_add e_x58 rfl (show (1 : Int32).toInt = 1 by decide) (by omega)
      refine lv_goto (tgt := 112) hx hb dX9_copies_148 (by decide) ?_
      exact ih112 ((2147483647 - x58.toInt).toNat) _ _ _ (by omega) ⟨x58, y54, y57, rfl, (by omega), lv_sub hl [0, 1] rfl, hP, hD, hS⟩
  · have c53_9 : ¬ (8 ≤ l50_1.toInt) := mt (cv_le (by decide) rfl).mpr c53_9
    refine lv_aload_n hx hb dX9_copies_56 rfl (lv_at hl 1 rfl) ?_
    refine va_get (D := (dC, dI)) (ci := 8) (v := .ref a0_22) (C := RX9) (T := TX9) (N := 44) hx hb hts inlX9 hown hK hP 0 rgL20_92b1330 rfl 22 (by decide) (hts (.fieldLink RX9 26 "ClosedUntilModel" "personName" "[J") qw_436) (fun _ h9 => h9) rfl dX9_copies_57 ?_
    refine lv_iload_n hx hb dX9_copies_60 rfl (lv_at hl 0 rfl) ?_
    refine lv_aload_n hx hb dX9_copies_61 rfl (lv_at hl 1 rfl) ?_
    refine va_get (D := (dC, dI)) (ci := 8) (v := .ref a0_22) (C := RX9) (T := TX9) (N := 44) hx hb hts inlX9 hown hK hP 0 rgL20_92b1330 rfl 22 (by decide) (hts (.fieldLink RX9 26 "ClosedUntilModel" "personName" "[J") qw_436) (fun _ h9 => h9) rfl dX9_copies_62 ?_
    refine lv_bipush (v := 8) hx hb dX9_copies_65 (by decide) ?_
    refine lv_iload_n hx hb dX9_copies_67 rfl (lv_at hl 0 rfl) ?_
    refine lv_iadd hx hb dX9_copies_68 ?_
    refine lv_topi (fun x59 e_x59 => ?_)
    try have e_x59 := ti_add e_x59 (show (8 : Int32).toInt = 8 by decide) rfl (by omega)
    refine va_lald hx hb hK hP 5 4 rgL20_411e303 rgT19_73edd8b (vinI (by omega) (by omega)) dX9_copies_69 ?_
    refine lv_topl (fun x60 e_x60 => ?_)
    refine va_last hx hb hK hP hD hS 5 4 rgL20_411e303 rgT19_73edd8b (vinI (by omega) (by omega)) dX9_copies_70 (fun H locs hP9 hD9 hS9 => ?_)
    obtain ⟨y61, e_y61⟩ : ∃ y, (vp_updL w50_5 l50_1.toNatClampNeg x60) = y := ⟨_, rfl⟩
    clear hP hD hS
    obtain ⟨hP, hD⟩ := rgS20_5edf87e (e := (a0_22, .inl (a0_22_c, 16, .inr (.inl y61)))) hP9 hD9 (congrArg (fun z9 => (((a0_22, .inl (a0_22_c, 16, .inr (.inl z9))) : Nat × va_E))) e_y61)
    have hS := hS9; clear hP9 hD9 hS9
    refine lv_aload_n hx hb dX9_copies_71 rfl (lv_at hl 1 rfl) ?_
    refine va_get (D := (dC, dI)) (ci := 8) (v := .ref a0_23) (C := RX9) (T := TX9) (N := 44) hx hb hts inlX9 hown hK hP 0 rgL20_92b1330 rfl 23 (by decide) (hts (.fieldLink RX9 30 "ClosedUntilModel" "birth" "[I") qw_514) (fun _ h9 => h9) rfl dX9_copies_72 ?_
    refine lv_iload_n hx hb dX9_copies_75 rfl (lv_at hl 0 rfl) ?_
    refine lv_aload_n hx hb dX9_copies_76 rfl (lv_at hl 1 rfl) ?_
    refine va_get (D := (dC, dI)) (ci := 8) (v := .ref a0_23) (C := RX9) (T := TX9) (N := 44) hx hb hts inlX9 hown hK hP 0 rgL20_92b1330 rfl 23 (by decide) (hts (.fieldLink RX9 30 "ClosedUntilModel" "birth" "[I") qw_514) (fun _ h9 => h9) rfl dX9_copies_77 ?_
    refine lv_bipush (v := 8) hx hb dX9_copies_80 (by decide) ?_
    refine lv_iload_n hx hb dX9_copies_82 rfl (lv_at hl 0 rfl) ?_
    refine lv_iadd hx hb dX9_copies_83 ?_
    refine lv_topi (fun x62 e_x62 => ?_)
    try have e_x62 := ti_add e_x62 (show (8 : Int32).toInt = 8 by decide) rfl (by omega)
    refine va_iald hx hb hK hP 6 5 rgL20_bbab9ba rgT19_d356512 (vinI (by omega) (by omega)) dX9_copies_84 ?_
    refine lv_topi (fun x63 e_x63 => ?_)
    have q_x63 := congrArg Int32.toInt e_x63
    have b_x63 := i32b x63
    refine va_iast hx hb hK hP hD hS 6 5 rgL20_bbab9ba rgT19_d356512 (vinI (by omega) (by omega)) dX9_copies_85 (fun H locs hP9 hD9 hS9 => ?_)
    obtain ⟨y64, e_y64⟩ : ∃ y, (upd w50_6 l50_1.toNatClampNeg x63) = y := ⟨_, rfl⟩
    clear hP hD hS
    obtain ⟨hP, hD⟩ := rgS20_1a084c6 (e := (a0_23, .inl (a0_23_c, 16, .inl y64))) hP9 hD9 (congrArg (fun z9 => (((a0_23, .inl (a0_23_c, 16, .inl z9)) : Nat × va_E))) e_y64)
    have hS := hS9; clear hP9 hD9 hS9
    refine lv_aload_n hx hb dX9_copies_86 rfl (lv_at hl 1 rfl) ?_
    refine va_get (D := (dC, dI)) (ci := 8) (v := .ref a0_38) (C := RX9) (T := TX9) (N := 44) hx hb hts inlX9 hown hK hP 0 rgL20_92b1330 rfl 38 (by decide) (hts (.fieldLink RX9 70 "ClosedUntilModel" "s" "[I") qw_502) (fun _ h9 => h9) rfl dX9_copies_87 ?_
    refine lv_bipush (v := 24) hx hb dX9_copies_90 (by decide) ?_
    refine lv_iload_n hx hb dX9_copies_92 rfl (lv_at hl 0 rfl) ?_
    refine lv_iadd hx hb dX9_copies_93 ?_
    refine lv_topi (fun x65 e_x65 => ?_)
    try have e_x65 := ti_add e_x65 (show (24 : Int32).toInt = 24 by decide) rfl (by omega)
    refine lv_aload_n hx hb dX9_copies_94 rfl (lv_at hl 1 rfl) ?_
    refine va_get (D := (dC, dI)) (ci := 8) (v := .ref a0_24) (C := RX9) (T := TX9) (N := 44) hx hb hts inlX9 hown hK hP 0 rgL20_92b1330 rfl 24 (by decide) (hts (.fieldLink RX9 33 "ClosedUntilModel" "death" "[I") qw_558) (fun _ h9 => h9) rfl dX9_copies_95 ?_
    refine lv_bipush (v := 8) hx hb dX9_copies_98 (by decide) ?_
    refine lv_iload_n hx hb dX9_copies_100 rfl (lv_at hl 0 rfl) ?_
    refine lv_iadd hx hb dX9_copies_101 ?_
    refine lv_topi (fun x66 e_x66 => ?_)
    try have e_x66 := ti_add e_x66 (show (8 : Int32).toInt = 8 by decide) rfl (by omega)
    refine va_iald hx hb hK hP 7 6 rgL20_c9dc12e rgT19_2ad4898 (vinI (by omega) (by omega)) dX9_copies_102 ?_
    refine lv_topi (fun x67 e_x67 => ?_)
    have q_x67 := congrArg Int32.toInt e_x67
    have b_x67 := i32b x67
    refine va_iast hx hb hK hP hD hS 19 18 rgL20_1a9ed69 rgT19_50760a5 (vinI (by omega) (by omega)) dX9_copies_103 (fun H locs hP9 hD9 hS9 => ?_)
    obtain ⟨y68, e_y68⟩ : ∃ y, (upd w50_19 x65.toNatClampNeg x67) = y := ⟨_, rfl⟩
    clear hP hD hS
    obtain ⟨hP, hD⟩ := rgS20_c0590b9 (e := (a0_38, .inl (a0_38_c, 176, .inl y68))) hP9 hD9 (congrArg (fun z9 => (((a0_38, .inl (a0_38_c, 176, .inl z9)) : Nat × va_E))) e_y68)
    have hS := hS9; clear hP9 hD9 hS9
    obtain ⟨x69, e_x69⟩ : ∃ y : Int32, y = l50_1 + 1 := ⟨_, rfl⟩
    refine lv_iinc (v := x69) (lv' := [(1, .int x69), (0, .ref a0)]) hx hb dX9_copies_104 hl (k := 0) rfl (by rw [e_x69]; rfl) (by decide) rfl (fun ls hl => ?_)
    try have e_x69 := ti_add e_x69 rfl (show (1 : Int32).toInt = 1 by decide) (by omega)
    refine lv_goto (tgt := 50) hx hb dX9_copies_107 (by decide) ?_
    exact ih50 ((2147483647 - x69.toInt).toNat) _ _ _ (by omega) ⟨x69, y61, y64, y68, rfl, (by omega), lv_sub hl [0, 1] rfl, hP, hD, hS⟩
