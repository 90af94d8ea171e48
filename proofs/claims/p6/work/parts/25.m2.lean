theorem dX9_day_0 : decode cX9_day 0 = .ok (.aload_n 0, 1) := by decide +kernel
theorem dX9_day_1 : decode cX9_day 1 = .ok (.iconst 0, 1) := by decide +kernel
theorem dX9_day_2 : decode cX9_day 2 = .ok (.putfield 85, 3) := by decide +kernel
theorem dX9_day_5 : decode cX9_day 5 = .ok (.iload_n 1, 1) := by decide +kernel
theorem dX9_day_6 : decode cX9_day 6 = .ok (.i2l, 1) := by decide +kernel
theorem dX9_day_7 : decode cX9_day 7 = .ok (.ldc2_w 119, 3) := by decide +kernel
theorem dX9_day_10 : decode cX9_day 10 = .ok (.ldc2_w 121, 3) := by decide +kernel
theorem dX9_day_13 : decode cX9_day 13 = .ok (.invokestatic 123, 3) := by decide +kernel
theorem dX9_day_16 : decode cX9_day 16 = .ok (.ifCond .eq 39, 3) := by decide +kernel
theorem dX9_day_19 : decode cX9_day 19 = .ok (.iload_n 2, 1) := by decide +kernel
theorem dX9_day_20 : decode cX9_day 20 = .ok (.i2l, 1) := by decide +kernel
theorem dX9_day_21 : decode cX9_day 21 = .ok (.lconst 1, 1) := by decide +kernel
theorem dX9_day_22 : decode cX9_day 22 = .ok (.ldc2_w 127, 3) := by decide +kernel
theorem dX9_day_25 : decode cX9_day 25 = .ok (.invokestatic 123, 3) := by decide +kernel
theorem dX9_day_28 : decode cX9_day 28 = .ok (.ifCond .eq 27, 3) := by decide +kernel
theorem dX9_day_31 : decode cX9_day 31 = .ok (.iload_n 3, 1) := by decide +kernel
theorem dX9_day_32 : decode cX9_day 32 = .ok (.i2l, 1) := by decide +kernel
theorem dX9_day_33 : decode cX9_day 33 = .ok (.lconst 1, 1) := by decide +kernel
theorem dX9_day_34 : decode cX9_day 34 = .ok (.iload_n 1, 1) := by decide +kernel
theorem dX9_day_35 : decode cX9_day 35 = .ok (.iload_n 2, 1) := by decide +kernel
theorem dX9_day_36 : decode cX9_day 36 = .ok (.invokestatic 97, 3) := by decide +kernel
theorem dX9_day_39 : decode cX9_day 39 = .ok (.i2l, 1) := by decide +kernel
theorem dX9_day_40 : decode cX9_day 40 = .ok (.invokestatic 123, 3) := by decide +kernel
theorem dX9_day_43 : decode cX9_day 43 = .ok (.ifCond .eq 12, 3) := by decide +kernel
theorem dX9_day_46 : decode cX9_day 46 = .ok (.iload_n 1, 1) := by decide +kernel
theorem dX9_day_47 : decode cX9_day 47 = .ok (.iload_n 2, 1) := by decide +kernel
theorem dX9_day_48 : decode cX9_day 48 = .ok (.iload_n 3, 1) := by decide +kernel
theorem dX9_day_49 : decode cX9_day 49 = .ok (.invokestatic 115, 3) := by decide +kernel
theorem dX9_day_52 : decode cX9_day 52 = .ok (.goto 4, 3) := by decide +kernel
theorem dX9_day_55 : decode cX9_day 55 = .ok (.iconst (-1), 1) := by decide +kernel
theorem dX9_day_56 : decode cX9_day 56 = .ok (.ireturn, 1) := by decide +kernel
theorem dX9_date_0 : decode cX9_date 0 = .ok (.aload_n 0, 1) := by decide +kernel
theorem dX9_date_1 : decode cX9_date 1 = .ok (.iconst 0, 1) := by decide +kernel
theorem dX9_date_2 : decode cX9_date 2 = .ok (.putfield 85, 3) := by decide +kernel
theorem dX9_date_5 : decode cX9_date 5 = .ok (.iload_n 1, 1) := by decide +kernel
theorem dX9_date_6 : decode cX9_date 6 = .ok (.i2l, 1) := by decide +kernel
theorem dX9_date_7 : decode cX9_date 7 = .ok (.lconst 0, 1) := by decide +kernel
theorem dX9_date_8 : decode cX9_date 8 = .ok (.ldc2_w 129, 3) := by decide +kernel
theorem dX9_date_11 : decode cX9_date 11 = .ok (.invokestatic 123, 3) := by decide +kernel
theorem dX9_date_14 : decode cX9_date 14 = .ok (.ifCond .eq 15, 3) := by decide +kernel
theorem dX9_date_17 : decode cX9_date 17 = .ok (.iload_n 2, 1) := by decide +kernel
theorem dX9_date_18 : decode cX9_date 18 = .ok (.i2l, 1) := by decide +kernel
theorem dX9_date_19 : decode cX9_date 19 = .ok (.lconst 0, 1) := by decide +kernel
theorem dX9_date_20 : decode cX9_date 20 = .ok (.ldc2_w 131, 3) := by decide +kernel
theorem dX9_date_23 : decode cX9_date 23 = .ok (.invokestatic 123, 3) := by decide +kernel
theorem dX9_date_26 : decode cX9_date 26 = .ok (.ifCond .ne 5, 3) := by decide +kernel
theorem dX9_date_29 : decode cX9_date 29 = .ok (.iconst (-1), 1) := by decide +kernel
theorem dX9_date_30 : decode cX9_date 30 = .ok (.ireturn, 1) := by decide +kernel
theorem dX9_date_31 : decode cX9_date 31 = .ok (.aload_n 0, 1) := by decide +kernel
theorem dX9_date_32 : decode cX9_date 32 = .ok (.iload_n 1, 1) := by decide +kernel
theorem dX9_date_33 : decode cX9_date 33 = .ok (.invokevirtual 111, 3) := by decide +kernel
theorem dX9_date_36 : decode cX9_date 36 = .ok (.iload_n 2, 1) := by decide +kernel
theorem dX9_date_37 : decode cX9_date 37 = .ok (.ifCond .ne 10, 3) := by decide +kernel
theorem dX9_date_40 : decode cX9_date 40 = .ok (.aload_n 0, 1) := by decide +kernel
theorem dX9_date_41 : decode cX9_date 41 = .ok (.getfield 101, 3) := by decide +kernel
theorem dX9_date_44 : decode cX9_date 44 = .ok (.goto 33, 3) := by decide +kernel
theorem dX9_date_47 : decode cX9_date 47 = .ok (.iload_n 2, 1) := by decide +kernel
theorem dX9_date_48 : decode cX9_date 48 = .ok (.iconst 1, 1) := by decide +kernel
theorem dX9_date_49 : decode cX9_date 49 = .ok (.if_icmp .ne 10, 3) := by decide +kernel
theorem dX9_date_52 : decode cX9_date 52 = .ok (.aload_n 0, 1) := by decide +kernel
theorem dX9_date_53 : decode cX9_date 53 = .ok (.getfield 104, 3) := by decide +kernel
theorem dX9_date_56 : decode cX9_date 56 = .ok (.goto 21, 3) := by decide +kernel
theorem dX9_date_59 : decode cX9_date 59 = .ok (.iload_n 2, 1) := by decide +kernel
theorem dX9_date_60 : decode cX9_date 60 = .ok (.iconst 2, 1) := by decide +kernel
theorem dX9_date_61 : decode cX9_date 61 = .ok (.if_icmp .ne 10, 3) := by decide +kernel
theorem dX9_date_64 : decode cX9_date 64 = .ok (.aload_n 0, 1) := by decide +kernel
theorem dX9_date_65 : decode cX9_date 65 = .ok (.getfield 107, 3) := by decide +kernel
theorem dX9_date_68 : decode cX9_date 68 = .ok (.goto 9, 3) := by decide +kernel
theorem dX9_date_71 : decode cX9_date 71 = .ok (.iload_n 1, 1) := by decide +kernel
theorem dX9_date_72 : decode cX9_date 72 = .ok (.iconst 4, 1) := by decide +kernel
theorem dX9_date_73 : decode cX9_date 73 = .ok (.iadd, 1) := by decide +kernel
theorem dX9_date_74 : decode cX9_date 74 = .ok (.bipush 7, 2) := by decide +kernel
theorem dX9_date_76 : decode cX9_date 76 = .ok (.irem, 1) := by decide +kernel
theorem dX9_date_77 : decode cX9_date 77 = .ok (.ireturn, 1) := by decide +kernel
theorem dX9_plus_0 : decode cX9_plus 0 = .ok (.aload_n 0, 1) := by decide +kernel
theorem dX9_plus_1 : decode cX9_plus 1 = .ok (.iconst 0, 1) := by decide +kernel
theorem dX9_plus_2 : decode cX9_plus 2 = .ok (.putfield 85, 3) := by decide +kernel
theorem dX9_plus_5 : decode cX9_plus 5 = .ok (.iload_n 1, 1) := by decide +kernel
theorem dX9_plus_6 : decode cX9_plus 6 = .ok (.i2l, 1) := by decide +kernel
theorem dX9_plus_7 : decode cX9_plus 7 = .ok (.lconst 0, 1) := by decide +kernel
theorem dX9_plus_8 : decode cX9_plus 8 = .ok (.ldc2_w 133, 3) := by decide +kernel
theorem dX9_plus_11 : decode cX9_plus 11 = .ok (.invokestatic 123, 3) := by decide +kernel
theorem dX9_plus_14 : decode cX9_plus 14 = .ok (.ifCond .eq 26, 3) := by decide +kernel
theorem dX9_plus_17 : decode cX9_plus 17 = .ok (.iload_n 2, 1) := by decide +kernel
theorem dX9_plus_18 : decode cX9_plus 18 = .ok (.i2l, 1) := by decide +kernel
theorem dX9_plus_19 : decode cX9_plus 19 = .ok (.ldc2_w 135, 3) := by decide +kernel
theorem dX9_plus_22 : decode cX9_plus 22 = .ok (.ldc2_w 137, 3) := by decide +kernel
theorem dX9_plus_25 : decode cX9_plus 25 = .ok (.invokestatic 123, 3) := by decide +kernel
theorem dX9_plus_28 : decode cX9_plus 28 = .ok (.ifCond .eq 12, 3) := by decide +kernel
theorem dX9_plus_31 : decode cX9_plus 31 = .ok (.aload_n 0, 1) := by decide +kernel
theorem dX9_plus_32 : decode cX9_plus 32 = .ok (.iload_n 1, 1) := by decide +kernel
theorem dX9_plus_33 : decode cX9_plus 33 = .ok (.iload_n 2, 1) := by decide +kernel
theorem dX9_plus_34 : decode cX9_plus 34 = .ok (.invokevirtual 139, 3) := by decide +kernel
theorem dX9_plus_37 : decode cX9_plus 37 = .ok (.goto 4, 3) := by decide +kernel
theorem dX9_plus_40 : decode cX9_plus 40 = .ok (.iconst (-1), 1) := by decide +kernel
theorem dX9_plus_41 : decode cX9_plus 41 = .ok (.ireturn, 1) := by decide +kernel
theorem dX9_steps_0 : decode cX9_steps 0 = .ok (.aload_n 0, 1) := by decide +kernel
theorem dX9_steps_1 : decode cX9_steps 1 = .ok (.aload_n 0, 1) := by decide +kernel
theorem dX9_steps_2 : decode cX9_steps 2 = .ok (.getfield 151, 3) := by decide +kernel
theorem dX9_steps_5 : decode cX9_steps 5 = .ok (.putfield 154, 3) := by decide +kernel
theorem dX9_steps_8 : decode cX9_steps 8 = .ok (.aload_n 0, 1) := by decide +kernel
theorem dX9_steps_9 : decode cX9_steps 9 = .ok (.aload_n 0, 1) := by decide +kernel
theorem dX9_steps_10 : decode cX9_steps 10 = .ok (.getfield 154, 3) := by decide +kernel
theorem dX9_steps_13 : decode cX9_steps 13 = .ok (.invokevirtual 157, 3) := by decide +kernel
theorem dX9_steps_16 : decode cX9_steps 16 = .ok (.bipush 32, 2) := by decide +kernel
theorem dX9_steps_18 : decode cX9_steps 18 = .ok (.if_icmp .eq 16, 3) := by decide +kernel
theorem dX9_steps_21 : decode cX9_steps 21 = .ok (.aload_n 0, 1) := by decide +kernel
theorem dX9_steps_22 : decode cX9_steps 22 = .ok (.aload_n 0, 1) := by decide +kernel
theorem dX9_steps_23 : decode cX9_steps 23 = .ok (.getfield 154, 3) := by decide +kernel
theorem dX9_steps_26 : decode cX9_steps 26 = .ok (.invokevirtual 157, 3) := by decide +kernel
theorem dX9_steps_29 : decode cX9_steps 29 = .ok (.bipush 10, 2) := by decide +kernel
theorem dX9_steps_31 : decode cX9_steps 31 = .ok (.if_icmp .ne 16, 3) := by decide +kernel
theorem dX9_steps_34 : decode cX9_steps 34 = .ok (.aload_n 0, 1) := by decide +kernel
theorem dX9_steps_35 : decode cX9_steps 35 = .ok (.dup, 1) := by decide +kernel
theorem dX9_steps_36 : decode cX9_steps 36 = .ok (.getfield 154, 3) := by decide +kernel
theorem dX9_steps_39 : decode cX9_steps 39 = .ok (.iconst 1, 1) := by decide +kernel
theorem dX9_steps_40 : decode cX9_steps 40 = .ok (.iadd, 1) := by decide +kernel
theorem dX9_steps_41 : decode cX9_steps 41 = .ok (.putfield 154, 3) := by decide +kernel
theorem dX9_steps_44 : decode cX9_steps 44 = .ok (.goto (-36), 3) := by decide +kernel
theorem dX9_steps_47 : decode cX9_steps 47 = .ok (.aload_n 0, 1) := by decide +kernel
theorem dX9_steps_48 : decode cX9_steps 48 = .ok (.aload_n 0, 1) := by decide +kernel
theorem dX9_steps_49 : decode cX9_steps 49 = .ok (.getfield 154, 3) := by decide +kernel
theorem dX9_steps_52 : decode cX9_steps 52 = .ok (.invokevirtual 157, 3) := by decide +kernel
theorem dX9_steps_55 : decode cX9_steps 55 = .ok (.istore_n 1, 1) := by decide +kernel
theorem dX9_steps_56 : decode cX9_steps 56 = .ok (.aload_n 0, 1) := by decide +kernel
theorem dX9_steps_57 : decode cX9_steps 57 = .ok (.aload_n 0, 1) := by decide +kernel
theorem dX9_steps_58 : decode cX9_steps 58 = .ok (.getfield 154, 3) := by decide +kernel
theorem dX9_steps_61 : decode cX9_steps 61 = .ok (.iconst 1, 1) := by decide +kernel
theorem dX9_steps_62 : decode cX9_steps 62 = .ok (.iadd, 1) := by decide +kernel
theorem dX9_steps_63 : decode cX9_steps 63 = .ok (.putfield 151, 3) := by decide +kernel
theorem dX9_steps_66 : decode cX9_steps 66 = .ok (.aload_n 0, 1) := by decide +kernel
theorem dX9_steps_67 : decode cX9_steps 67 = .ok (.iconst 4, 1) := by decide +kernel
theorem dX9_steps_68 : decode cX9_steps 68 = .ok (.putfield 160, 3) := by decide +kernel
theorem dX9_steps_71 : decode cX9_steps 71 = .ok (.aload_n 0, 1) := by decide +kernel
theorem dX9_steps_72 : decode cX9_steps 72 = .ok (.iconst 0, 1) := by decide +kernel
theorem dX9_steps_73 : decode cX9_steps 73 = .ok (.putfield 163, 3) := by decide +kernel
theorem dX9_steps_76 : decode cX9_steps 76 = .ok (.aload_n 0, 1) := by decide +kernel
theorem dX9_steps_77 : decode cX9_steps 77 = .ok (.lconst 0, 1) := by decide +kernel
theorem dX9_steps_78 : decode cX9_steps 78 = .ok (.putfield 166, 3) := by decide +kernel
theorem dX9_steps_81 : decode cX9_steps 81 = .ok (.iload_n 1, 1) := by decide +kernel
theorem dX9_steps_82 : decode cX9_steps 82 = .ok (.iconst (-1), 1) := by decide +kernel
theorem dX9_steps_83 : decode cX9_steps 83 = .ok (.if_icmp .ne 19, 3) := by decide +kernel
theorem dX9_steps_86 : decode cX9_steps 86 = .ok (.aload_n 0, 1) := by decide +kernel
theorem dX9_steps_87 : decode cX9_steps 87 = .ok (.aload_n 0, 1) := by decide +kernel
theorem dX9_steps_88 : decode cX9_steps 88 = .ok (.getfield 154, 3) := by decide +kernel
theorem dX9_steps_91 : decode cX9_steps 91 = .ok (.putfield 151, 3) := by decide +kernel
theorem dX9_steps_94 : decode cX9_steps 94 = .ok (.aload_n 0, 1) := by decide +kernel
theorem dX9_steps_95 : decode cX9_steps 95 = .ok (.iconst 0, 1) := by decide +kernel
theorem dX9_steps_96 : decode cX9_steps 96 = .ok (.putfield 160, 3) := by decide +kernel
theorem dX9_steps_99 : decode cX9_steps 99 = .ok (.goto 244, 3) := by decide +kernel
theorem dX9_steps_102 : decode cX9_steps 102 = .ok (.iload_n 1, 1) := by decide +kernel
theorem dX9_steps_103 : decode cX9_steps 103 = .ok (.bipush 59, 2) := by decide +kernel
theorem dX9_steps_105 : decode cX9_steps 105 = .ok (.if_icmp .ne 11, 3) := by decide +kernel
theorem dX9_steps_108 : decode cX9_steps 108 = .ok (.aload_n 0, 1) := by decide +kernel
theorem dX9_steps_109 : decode cX9_steps 109 = .ok (.iconst 3, 1) := by decide +kernel
theorem dX9_steps_110 : decode cX9_steps 110 = .ok (.putfield 160, 3) := by decide +kernel
theorem dX9_steps_113 : decode cX9_steps 113 = .ok (.goto 230, 3) := by decide +kernel
theorem dX9_steps_116 : decode cX9_steps 116 = .ok (.iload_n 1, 1) := by decide +kernel
theorem dX9_steps_117 : decode cX9_steps 117 = .ok (.i2l, 1) := by decide +kernel
theorem dX9_steps_118 : decode cX9_steps 118 = .ok (.ldc2_w 170, 3) := by decide +kernel
theorem dX9_steps_121 : decode cX9_steps 121 = .ok (.ldc2_w 172, 3) := by decide +kernel
theorem dX9_steps_124 : decode cX9_steps 124 = .ok (.invokestatic 123, 3) := by decide +kernel
theorem dX9_steps_127 : decode cX9_steps 127 = .ok (.ifCond .eq 116, 3) := by decide +kernel
theorem dX9_steps_130 : decode cX9_steps 130 = .ok (.aload_n 0, 1) := by decide +kernel
theorem dX9_steps_131 : decode cX9_steps 131 = .ok (.aload_n 0, 1) := by decide +kernel
theorem dX9_steps_132 : decode cX9_steps 132 = .ok (.getfield 154, 3) := by decide +kernel
theorem dX9_steps_135 : decode cX9_steps 135 = .ok (.putfield 151, 3) := by decide +kernel
theorem dX9_steps_138 : decode cX9_steps 138 = .ok (.aload_n 0, 1) := by decide +kernel
theorem dX9_steps_139 : decode cX9_steps 139 = .ok (.aload_n 0, 1) := by decide +kernel
theorem dX9_steps_140 : decode cX9_steps 140 = .ok (.getfield 151, 3) := by decide +kernel
theorem dX9_steps_143 : decode cX9_steps 143 = .ok (.invokevirtual 157, 3) := by decide +kernel
theorem dX9_steps_146 : decode cX9_steps 146 = .ok (.i2l, 1) := by decide +kernel
theorem dX9_steps_147 : decode cX9_steps 147 = .ok (.ldc2_w 170, 3) := by decide +kernel
theorem dX9_steps_150 : decode cX9_steps 150 = .ok (.ldc2_w 172, 3) := by decide +kernel
theorem dX9_steps_153 : decode cX9_steps 153 = .ok (.invokestatic 123, 3) := by decide +kernel
theorem dX9_steps_156 : decode cX9_steps 156 = .ok (.ifCond .eq 61, 3) := by decide +kernel
theorem dX9_steps_159 : decode cX9_steps 159 = .ok (.aload_n 0, 1) := by decide +kernel
theorem dX9_steps_160 : decode cX9_steps 160 = .ok (.aload_n 0, 1) := by decide +kernel
theorem dX9_steps_161 : decode cX9_steps 161 = .ok (.getfield 151, 3) := by decide +kernel
theorem dX9_steps_164 : decode cX9_steps 164 = .ok (.aload_n 0, 1) := by decide +kernel
theorem dX9_steps_165 : decode cX9_steps 165 = .ok (.getfield 154, 3) := by decide +kernel
theorem dX9_steps_168 : decode cX9_steps 168 = .ok (.isub, 1) := by decide +kernel
theorem dX9_steps_169 : decode cX9_steps 169 = .ok (.bipush 8, 2) := by decide +kernel
theorem dX9_steps_171 : decode cX9_steps 171 = .ok (.if_icmp .ge 26, 3) := by decide +kernel
theorem dX9_steps_174 : decode cX9_steps 174 = .ok (.aload_n 0, 1) := by decide +kernel
theorem dX9_steps_175 : decode cX9_steps 175 = .ok (.getfield 166, 3) := by decide +kernel
theorem dX9_steps_178 : decode cX9_steps 178 = .ok (.iconst 5, 1) := by decide +kernel
theorem dX9_steps_179 : decode cX9_steps 179 = .ok (.lshl, 1) := by decide +kernel
theorem dX9_steps_180 : decode cX9_steps 180 = .ok (.aload_n 0, 1) := by decide +kernel
theorem dX9_steps_181 : decode cX9_steps 181 = .ok (.aload_n 0, 1) := by decide +kernel
theorem dX9_steps_182 : decode cX9_steps 182 = .ok (.getfield 151, 3) := by decide +kernel
theorem dX9_steps_185 : decode cX9_steps 185 = .ok (.invokevirtual 157, 3) := by decide +kernel
theorem dX9_steps_188 : decode cX9_steps 188 = .ok (.i2l, 1) := by decide +kernel
theorem dX9_steps_189 : decode cX9_steps 189 = .ok (.ldc2_w 174, 3) := by decide +kernel
theorem dX9_steps_192 : decode cX9_steps 192 = .ok (.lsub, 1) := by decide +kernel
theorem dX9_steps_193 : decode cX9_steps 193 = .ok (.lor, 1) := by decide +kernel
theorem dX9_steps_194 : decode cX9_steps 194 = .ok (.goto 7, 3) := by decide +kernel
theorem dX9_steps_197 : decode cX9_steps 197 = .ok (.aload_n 0, 1) := by decide +kernel
theorem dX9_steps_198 : decode cX9_steps 198 = .ok (.getfield 166, 3) := by decide +kernel
theorem dX9_steps_201 : decode cX9_steps 201 = .ok (.putfield 166, 3) := by decide +kernel
theorem dX9_steps_204 : decode cX9_steps 204 = .ok (.aload_n 0, 1) := by decide +kernel
theorem dX9_steps_205 : decode cX9_steps 205 = .ok (.dup, 1) := by decide +kernel
theorem dX9_steps_206 : decode cX9_steps 206 = .ok (.getfield 151, 3) := by decide +kernel
theorem dX9_steps_209 : decode cX9_steps 209 = .ok (.iconst 1, 1) := by decide +kernel
theorem dX9_steps_210 : decode cX9_steps 210 = .ok (.iadd, 1) := by decide +kernel
theorem dX9_steps_211 : decode cX9_steps 211 = .ok (.putfield 151, 3) := by decide +kernel
theorem dX9_steps_214 : decode cX9_steps 214 = .ok (.goto (-76), 3) := by decide +kernel
theorem dX9_steps_217 : decode cX9_steps 217 = .ok (.aload_n 0, 1) := by decide +kernel
theorem dX9_steps_218 : decode cX9_steps 218 = .ok (.aload_n 0, 1) := by decide +kernel
theorem dX9_steps_219 : decode cX9_steps 219 = .ok (.getfield 151, 3) := by decide +kernel
theorem dX9_steps_222 : decode cX9_steps 222 = .ok (.aload_n 0, 1) := by decide +kernel
theorem dX9_steps_223 : decode cX9_steps 223 = .ok (.getfield 154, 3) := by decide +kernel
theorem dX9_steps_226 : decode cX9_steps 226 = .ok (.isub, 1) := by decide +kernel
theorem dX9_steps_227 : decode cX9_steps 227 = .ok (.bipush 9, 2) := by decide +kernel
theorem dX9_steps_229 : decode cX9_steps 229 = .ok (.if_icmp .ge 7, 3) := by decide +kernel
theorem dX9_steps_232 : decode cX9_steps 232 = .ok (.iconst 1, 1) := by decide +kernel
theorem dX9_steps_233 : decode cX9_steps 233 = .ok (.goto 4, 3) := by decide +kernel
theorem dX9_steps_236 : decode cX9_steps 236 = .ok (.iconst 4, 1) := by decide +kernel
theorem dX9_steps_237 : decode cX9_steps 237 = .ok (.putfield 160, 3) := by decide +kernel
theorem dX9_steps_240 : decode cX9_steps 240 = .ok (.goto 103, 3) := by decide +kernel
theorem dX9_steps_243 : decode cX9_steps 243 = .ok (.iload_n 1, 1) := by decide +kernel
theorem dX9_steps_244 : decode cX9_steps 244 = .ok (.i2l, 1) := by decide +kernel
theorem dX9_steps_245 : decode cX9_steps 245 = .ok (.ldc2_w 176, 3) := by decide +kernel
theorem dX9_steps_248 : decode cX9_steps 248 = .ok (.ldc2_w 178, 3) := by decide +kernel
theorem dX9_steps_251 : decode cX9_steps 251 = .ok (.invokestatic 123, 3) := by decide +kernel
theorem dX9_steps_254 : decode cX9_steps 254 = .ok (.ifCond .eq 89, 3) := by decide +kernel
theorem dX9_steps_257 : decode cX9_steps 257 = .ok (.aload_n 0, 1) := by decide +kernel
theorem dX9_steps_258 : decode cX9_steps 258 = .ok (.aload_n 0, 1) := by decide +kernel
theorem dX9_steps_259 : decode cX9_steps 259 = .ok (.getfield 154, 3) := by decide +kernel
theorem dX9_steps_262 : decode cX9_steps 262 = .ok (.putfield 151, 3) := by decide +kernel
theorem dX9_steps_265 : decode cX9_steps 265 = .ok (.aload_n 0, 1) := by decide +kernel
theorem dX9_steps_266 : decode cX9_steps 266 = .ok (.aload_n 0, 1) := by decide +kernel
theorem dX9_steps_267 : decode cX9_steps 267 = .ok (.getfield 151, 3) := by decide +kernel
theorem dX9_steps_270 : decode cX9_steps 270 = .ok (.invokevirtual 157, 3) := by decide +kernel
theorem dX9_steps_273 : decode cX9_steps 273 = .ok (.i2l, 1) := by decide +kernel
theorem dX9_steps_274 : decode cX9_steps 274 = .ok (.ldc2_w 176, 3) := by decide +kernel
theorem dX9_steps_277 : decode cX9_steps 277 = .ok (.ldc2_w 178, 3) := by decide +kernel
theorem dX9_steps_280 : decode cX9_steps 280 = .ok (.invokestatic 123, 3) := by decide +kernel
theorem dX9_steps_283 : decode cX9_steps 283 = .ok (.ifCond .eq 55, 3) := by decide +kernel
theorem dX9_steps_286 : decode cX9_steps 286 = .ok (.aload_n 0, 1) := by decide +kernel
theorem dX9_steps_287 : decode cX9_steps 287 = .ok (.aload_n 0, 1) := by decide +kernel
theorem dX9_steps_288 : decode cX9_steps 288 = .ok (.getfield 163, 3) := by decide +kernel
theorem dX9_steps_291 : decode cX9_steps 291 = .ok (.ldc 180, 2) := by decide +kernel
theorem dX9_steps_293 : decode cX9_steps 293 = .ok (.if_icmp .ge 25, 3) := by decide +kernel
theorem dX9_steps_296 : decode cX9_steps 296 = .ok (.bipush 10, 2) := by decide +kernel
theorem dX9_steps_298 : decode cX9_steps 298 = .ok (.aload_n 0, 1) := by decide +kernel
theorem dX9_steps_299 : decode cX9_steps 299 = .ok (.getfield 163, 3) := by decide +kernel
theorem dX9_steps_302 : decode cX9_steps 302 = .ok (.imul, 1) := by decide +kernel
theorem dX9_steps_303 : decode cX9_steps 303 = .ok (.aload_n 0, 1) := by decide +kernel
theorem dX9_steps_304 : decode cX9_steps 304 = .ok (.aload_n 0, 1) := by decide +kernel
theorem dX9_steps_305 : decode cX9_steps 305 = .ok (.getfield 151, 3) := by decide +kernel
theorem dX9_steps_308 : decode cX9_steps 308 = .ok (.invokevirtual 157, 3) := by decide +kernel
theorem dX9_steps_311 : decode cX9_steps 311 = .ok (.iadd, 1) := by decide +kernel
theorem dX9_steps_312 : decode cX9_steps 312 = .ok (.bipush 48, 2) := by decide +kernel
theorem dX9_steps_314 : decode cX9_steps 314 = .ok (.isub, 1) := by decide +kernel
theorem dX9_steps_315 : decode cX9_steps 315 = .ok (.goto 7, 3) := by decide +kernel
theorem dX9_steps_318 : decode cX9_steps 318 = .ok (.aload_n 0, 1) := by decide +kernel
theorem dX9_steps_319 : decode cX9_steps 319 = .ok (.getfield 163, 3) := by decide +kernel
theorem dX9_steps_322 : decode cX9_steps 322 = .ok (.putfield 163, 3) := by decide +kernel
theorem dX9_steps_325 : decode cX9_steps 325 = .ok (.aload_n 0, 1) := by decide +kernel
theorem dX9_steps_326 : decode cX9_steps 326 = .ok (.dup, 1) := by decide +kernel
theorem dX9_steps_327 : decode cX9_steps 327 = .ok (.getfield 151, 3) := by decide +kernel
theorem dX9_steps_330 : decode cX9_steps 330 = .ok (.iconst 1, 1) := by decide +kernel
theorem dX9_steps_331 : decode cX9_steps 331 = .ok (.iadd, 1) := by decide +kernel
theorem dX9_steps_332 : decode cX9_steps 332 = .ok (.putfield 151, 3) := by decide +kernel
theorem dX9_steps_335 : decode cX9_steps 335 = .ok (.goto (-70), 3) := by decide +kernel
theorem dX9_steps_338 : decode cX9_steps 338 = .ok (.aload_n 0, 1) := by decide +kernel
theorem dX9_steps_339 : decode cX9_steps 339 = .ok (.iconst 2, 1) := by decide +kernel
theorem dX9_steps_340 : decode cX9_steps 340 = .ok (.putfield 160, 3) := by decide +kernel
theorem dX9_steps_343 : decode cX9_steps 343 = .ok (.return_, 1) := by decide +kernel
theorem dX9_takes_0 : decode cX9_takes 0 = .ok (.aload_n 0, 1) := by decide +kernel
theorem dX9_takes_1 : decode cX9_takes 1 = .ok (.aload_n 1, 1) := by decide +kernel
theorem dX9_takes_2 : decode cX9_takes 2 = .ok (.invokevirtual 207, 3) := by decide +kernel
theorem dX9_takes_5 : decode cX9_takes 5 = .ok (.ifCond .ne 5, 3) := by decide +kernel
theorem dX9_takes_8 : decode cX9_takes 8 = .ok (.iconst 0, 1) := by decide +kernel
theorem dX9_takes_9 : decode cX9_takes 9 = .ok (.ireturn, 1) := by decide +kernel
theorem dX9_takes_10 : decode cX9_takes 10 = .ok (.aload_n 0, 1) := by decide +kernel
theorem dX9_takes_11 : decode cX9_takes 11 = .ok (.invokevirtual 236, 3) := by decide +kernel
theorem dX9_takes_14 : decode cX9_takes 14 = .ok (.iconst 1, 1) := by decide +kernel
theorem dX9_takes_15 : decode cX9_takes 15 = .ok (.ireturn, 1) := by decide +kernel
theorem dX9_takesNumber_0 : decode cX9_takesNumber 0 = .ok (.aload_n 0, 1) := by decide +kernel
theorem dX9_takesNumber_1 : decode cX9_takesNumber 1 = .ok (.aload_n 0, 1) := by decide +kernel
theorem dX9_takesNumber_2 : decode cX9_takesNumber 2 = .ok (.getfield 160, 3) := by decide +kernel
theorem dX9_takesNumber_5 : decode cX9_takesNumber 5 = .ok (.iconst 2, 1) := by decide +kernel
theorem dX9_takesNumber_6 : decode cX9_takesNumber 6 = .ok (.if_icmp .ne 7, 3) := by decide +kernel
theorem dX9_takesNumber_9 : decode cX9_takesNumber 9 = .ok (.iconst 1, 1) := by decide +kernel
theorem dX9_takesNumber_10 : decode cX9_takesNumber 10 = .ok (.goto 4, 3) := by decide +kernel
theorem dX9_takesNumber_13 : decode cX9_takesNumber 13 = .ok (.iconst 0, 1) := by decide +kernel
theorem dX9_takesNumber_14 : decode cX9_takesNumber 14 = .ok (.iconst 1, 1) := by decide +kernel
theorem dX9_takesNumber_15 : decode cX9_takesNumber 15 = .ok (.invokevirtual 239, 3) := by decide +kernel
theorem dX9_takesNumber_18 : decode cX9_takesNumber 18 = .ok (.ifCond .eq 23, 3) := by decide +kernel
theorem dX9_takesNumber_21 : decode cX9_takesNumber 21 = .ok (.aload_n 0, 1) := by decide +kernel
theorem dX9_takesNumber_22 : decode cX9_takesNumber 22 = .ok (.aload_n 0, 1) := by decide +kernel
theorem dX9_takesNumber_23 : decode cX9_takesNumber 23 = .ok (.getfield 163, 3) := by decide +kernel
theorem dX9_takesNumber_26 : decode cX9_takesNumber 26 = .ok (.i2l, 1) := by decide +kernel
theorem dX9_takesNumber_27 : decode cX9_takesNumber 27 = .ok (.iload_n 1, 1) := by decide +kernel
theorem dX9_takesNumber_28 : decode cX9_takesNumber 28 = .ok (.i2l, 1) := by decide +kernel
theorem dX9_takesNumber_29 : decode cX9_takesNumber 29 = .ok (.iload_n 2, 1) := by decide +kernel
theorem dX9_takesNumber_30 : decode cX9_takesNumber 30 = .ok (.i2l, 1) := by decide +kernel
theorem dX9_takesNumber_31 : decode cX9_takesNumber 31 = .ok (.invokestatic 123, 3) := by decide +kernel
theorem dX9_takesNumber_34 : decode cX9_takesNumber 34 = .ok (.iconst 4, 1) := by decide +kernel
theorem dX9_takesNumber_35 : decode cX9_takesNumber 35 = .ok (.invokevirtual 239, 3) := by decide +kernel
theorem dX9_takesNumber_38 : decode cX9_takesNumber 38 = .ok (.ifCond .ne 5, 3) := by decide +kernel
theorem dX9_takesNumber_41 : decode cX9_takesNumber 41 = .ok (.iconst 0, 1) := by decide +kernel
theorem dX9_takesNumber_42 : decode cX9_takesNumber 42 = .ok (.ireturn, 1) := by decide +kernel
theorem dX9_takesNumber_43 : decode cX9_takesNumber 43 = .ok (.aload_n 0, 1) := by decide +kernel
theorem dX9_takesNumber_44 : decode cX9_takesNumber 44 = .ok (.aload_n 0, 1) := by decide +kernel
theorem dX9_takesNumber_45 : decode cX9_takesNumber 45 = .ok (.getfield 163, 3) := by decide +kernel
theorem dX9_takesNumber_48 : decode cX9_takesNumber 48 = .ok (.putfield 243, 3) := by decide +kernel
theorem dX9_takesNumber_51 : decode cX9_takesNumber 51 = .ok (.aload_n 0, 1) := by decide +kernel
theorem dX9_takesNumber_52 : decode cX9_takesNumber 52 = .ok (.invokevirtual 236, 3) := by decide +kernel
theorem dX9_takesNumber_55 : decode cX9_takesNumber 55 = .ok (.iconst 1, 1) := by decide +kernel
theorem dX9_takesNumber_56 : decode cX9_takesNumber 56 = .ok (.ireturn, 1) := by decide +kernel
theorem dX9_takesDate_0 : decode cX9_takesDate 0 = .ok (.aload_n 0, 1) := by decide +kernel
theorem dX9_takesDate_1 : decode cX9_takesDate 1 = .ok (.aload_n 0, 1) := by decide +kernel
theorem dX9_takesDate_2 : decode cX9_takesDate 2 = .ok (.getfield 154, 3) := by decide +kernel
theorem dX9_takesDate_5 : decode cX9_takesDate 5 = .ok (.putfield 246, 3) := by decide +kernel
theorem dX9_takesDate_8 : decode cX9_takesDate 8 = .ok (.aload_n 0, 1) := by decide +kernel
theorem dX9_takesDate_9 : decode cX9_takesDate 9 = .ok (.sipush 1700, 3) := by decide +kernel
theorem dX9_takesDate_12 : decode cX9_takesDate 12 = .ok (.sipush 2299, 3) := by decide +kernel
theorem dX9_takesDate_15 : decode cX9_takesDate 15 = .ok (.invokevirtual 249, 3) := by decide +kernel
theorem dX9_takesDate_18 : decode cX9_takesDate 18 = .ok (.ifCond .ne 5, 3) := by decide +kernel
theorem dX9_takesDate_21 : decode cX9_takesDate 21 = .ok (.iconst 0, 1) := by decide +kernel
theorem dX9_takesDate_22 : decode cX9_takesDate 22 = .ok (.ireturn, 1) := by decide +kernel
theorem dX9_takesDate_23 : decode cX9_takesDate 23 = .ok (.aload_n 0, 1) := by decide +kernel
theorem dX9_takesDate_24 : decode cX9_takesDate 24 = .ok (.getfield 243, 3) := by decide +kernel
theorem dX9_takesDate_27 : decode cX9_takesDate 27 = .ok (.istore_n 1, 1) := by decide +kernel
theorem dX9_takesDate_28 : decode cX9_takesDate 28 = .ok (.aload_n 0, 1) := by decide +kernel
theorem dX9_takesDate_29 : decode cX9_takesDate 29 = .ok (.iconst 1, 1) := by decide +kernel
theorem dX9_takesDate_30 : decode cX9_takesDate 30 = .ok (.bipush 12, 2) := by decide +kernel
theorem dX9_takesDate_32 : decode cX9_takesDate 32 = .ok (.invokevirtual 249, 3) := by decide +kernel
theorem dX9_takesDate_35 : decode cX9_takesDate 35 = .ok (.ifCond .ne 5, 3) := by decide +kernel
theorem dX9_takesDate_38 : decode cX9_takesDate 38 = .ok (.iconst 0, 1) := by decide +kernel
theorem dX9_takesDate_39 : decode cX9_takesDate 39 = .ok (.ireturn, 1) := by decide +kernel
theorem dX9_takesDate_40 : decode cX9_takesDate 40 = .ok (.aload_n 0, 1) := by decide +kernel
theorem dX9_takesDate_41 : decode cX9_takesDate 41 = .ok (.getfield 243, 3) := by decide +kernel
theorem dX9_takesDate_44 : decode cX9_takesDate 44 = .ok (.istore_n 2, 1) := by decide +kernel
theorem dX9_takesDate_45 : decode cX9_takesDate 45 = .ok (.aload_n 0, 1) := by decide +kernel
theorem dX9_takesDate_46 : decode cX9_takesDate 46 = .ok (.iconst 1, 1) := by decide +kernel
theorem dX9_takesDate_47 : decode cX9_takesDate 47 = .ok (.iload_n 1, 1) := by decide +kernel
theorem dX9_takesDate_48 : decode cX9_takesDate 48 = .ok (.iload_n 2, 1) := by decide +kernel
theorem dX9_takesDate_49 : decode cX9_takesDate 49 = .ok (.invokestatic 97, 3) := by decide +kernel
theorem dX9_takesDate_52 : decode cX9_takesDate 52 = .ok (.invokevirtual 249, 3) := by decide +kernel
theorem dX9_takesDate_55 : decode cX9_takesDate 55 = .ok (.ifCond .ne 5, 3) := by decide +kernel
theorem dX9_takesDate_58 : decode cX9_takesDate 58 = .ok (.iconst 0, 1) := by decide +kernel
theorem dX9_takesDate_59 : decode cX9_takesDate 59 = .ok (.ireturn, 1) := by decide +kernel
theorem dX9_takesDate_60 : decode cX9_takesDate 60 = .ok (.aload_n 0, 1) := by decide +kernel
theorem dX9_takesDate_61 : decode cX9_takesDate 61 = .ok (.iload_n 1, 1) := by decide +kernel
theorem dX9_takesDate_62 : decode cX9_takesDate 62 = .ok (.iload_n 2, 1) := by decide +kernel
theorem dX9_takesDate_63 : decode cX9_takesDate 63 = .ok (.aload_n 0, 1) := by decide +kernel
theorem dX9_takesDate_64 : decode cX9_takesDate 64 = .ok (.getfield 243, 3) := by decide +kernel
theorem dX9_takesDate_67 : decode cX9_takesDate 67 = .ok (.invokestatic 115, 3) := by decide +kernel
theorem dX9_takesDate_70 : decode cX9_takesDate 70 = .ok (.putfield 253, 3) := by decide +kernel
theorem dX9_takesDate_73 : decode cX9_takesDate 73 = .ok (.iconst 1, 1) := by decide +kernel
theorem dX9_takesDate_74 : decode cX9_takesDate 74 = .ok (.ireturn, 1) := by decide +kernel
theorem dX9_newName_0 : decode cX9_newName 0 = .ok (.aload_n 0, 1) := by decide +kernel
theorem dX9_newName_1 : decode cX9_newName 1 = .ok (.aload_n 0, 1) := by decide +kernel
theorem dX9_newName_2 : decode cX9_newName 2 = .ok (.invokevirtual 259, 3) := by decide +kernel
theorem dX9_newName_5 : decode cX9_newName 5 = .ok (.iconst 1, 1) := by decide +kernel
theorem dX9_newName_6 : decode cX9_newName 6 = .ok (.invokevirtual 239, 3) := by decide +kernel
theorem dX9_newName_9 : decode cX9_newName 9 = .ok (.ifCond .eq 37, 3) := by decide +kernel
theorem dX9_newName_12 : decode cX9_newName 12 = .ok (.aload_n 0, 1) := by decide +kernel
theorem dX9_newName_13 : decode cX9_newName 13 = .ok (.aload_n 0, 1) := by decide +kernel
theorem dX9_newName_14 : decode cX9_newName 14 = .ok (.invokevirtual 262, 3) := by decide +kernel
theorem dX9_newName_17 : decode cX9_newName 17 = .ok (.ifCond .ge 21, 3) := by decide +kernel
theorem dX9_newName_20 : decode cX9_newName 20 = .ok (.aload_n 0, 1) := by decide +kernel
theorem dX9_newName_21 : decode cX9_newName 21 = .ok (.invokevirtual 265, 3) := by decide +kernel
theorem dX9_newName_24 : decode cX9_newName 24 = .ok (.ifCond .ge 14, 3) := by decide +kernel
theorem dX9_newName_27 : decode cX9_newName 27 = .ok (.aload_n 0, 1) := by decide +kernel
theorem dX9_newName_28 : decode cX9_newName 28 = .ok (.invokevirtual 268, 3) := by decide +kernel
theorem dX9_newName_31 : decode cX9_newName 31 = .ok (.ifCond .ge 7, 3) := by decide +kernel
theorem dX9_newName_34 : decode cX9_newName 34 = .ok (.iconst 1, 1) := by decide +kernel
theorem dX9_newName_35 : decode cX9_newName 35 = .ok (.goto 4, 3) := by decide +kernel
theorem dX9_newName_38 : decode cX9_newName 38 = .ok (.iconst 0, 1) := by decide +kernel
theorem dX9_newName_39 : decode cX9_newName 39 = .ok (.iconst 2, 1) := by decide +kernel
theorem dX9_newName_40 : decode cX9_newName 40 = .ok (.invokevirtual 239, 3) := by decide +kernel
theorem dX9_newName_43 : decode cX9_newName 43 = .ok (.ifCond .ne 5, 3) := by decide +kernel
theorem dX9_newName_46 : decode cX9_newName 46 = .ok (.iconst 0, 1) := by decide +kernel
theorem dX9_newName_47 : decode cX9_newName 47 = .ok (.ireturn, 1) := by decide +kernel
theorem dX9_newName_48 : decode cX9_newName 48 = .ok (.aload_n 0, 1) := by decide +kernel
theorem dX9_newName_49 : decode cX9_newName 49 = .ok (.aload_n 0, 1) := by decide +kernel
theorem dX9_newName_50 : decode cX9_newName 50 = .ok (.getfield 166, 3) := by decide +kernel
theorem dX9_newName_53 : decode cX9_newName 53 = .ok (.putfield 271, 3) := by decide +kernel
theorem dX9_newName_56 : decode cX9_newName 56 = .ok (.aload_n 0, 1) := by decide +kernel
theorem dX9_newName_57 : decode cX9_newName 57 = .ok (.invokevirtual 236, 3) := by decide +kernel
theorem dX9_newName_60 : decode cX9_newName 60 = .ok (.iconst 1, 1) := by decide +kernel
theorem dX9_newName_61 : decode cX9_newName 61 = .ok (.ireturn, 1) := by decide +kernel
theorem dX9_takesTold_0 : decode cX9_takesTold 0 = .ok (.aload_n 0, 1) := by decide +kernel
theorem dX9_takesTold_1 : decode cX9_takesTold 1 = .ok (.aload_n 0, 1) := by decide +kernel
theorem dX9_takesTold_2 : decode cX9_takesTold 2 = .ok (.invokevirtual 259, 3) := by decide +kernel
theorem dX9_takesTold_5 : decode cX9_takesTold 5 = .ok (.iconst 1, 1) := by decide +kernel
theorem dX9_takesTold_6 : decode cX9_takesTold 6 = .ok (.invokevirtual 239, 3) := by decide +kernel
theorem dX9_takesTold_9 : decode cX9_takesTold 9 = .ok (.ifCond .ne 5, 3) := by decide +kernel
theorem dX9_takesTold_12 : decode cX9_takesTold 12 = .ok (.iconst 0, 1) := by decide +kernel
theorem dX9_takesTold_13 : decode cX9_takesTold 13 = .ok (.ireturn, 1) := by decide +kernel
theorem dX9_takesTold_14 : decode cX9_takesTold 14 = .ok (.aload_n 0, 1) := by decide +kernel
theorem dX9_takesTold_15 : decode cX9_takesTold 15 = .ok (.iload_n 1, 1) := by decide +kernel
theorem dX9_takesTold_16 : decode cX9_takesTold 16 = .ok (.ifCond .ne 10, 3) := by decide +kernel
theorem dX9_takesTold_19 : decode cX9_takesTold 19 = .ok (.aload_n 0, 1) := by decide +kernel
theorem dX9_takesTold_20 : decode cX9_takesTold 20 = .ok (.invokevirtual 268, 3) := by decide +kernel
theorem dX9_takesTold_23 : decode cX9_takesTold 23 = .ok (.goto 19, 3) := by decide +kernel
theorem dX9_takesTold_26 : decode cX9_takesTold 26 = .ok (.iload_n 1, 1) := by decide +kernel
theorem dX9_takesTold_27 : decode cX9_takesTold 27 = .ok (.iconst 1, 1) := by decide +kernel
theorem dX9_takesTold_28 : decode cX9_takesTold 28 = .ok (.if_icmp .ne 10, 3) := by decide +kernel
theorem dX9_takesTold_31 : decode cX9_takesTold 31 = .ok (.aload_n 0, 1) := by decide +kernel
theorem dX9_takesTold_32 : decode cX9_takesTold 32 = .ok (.invokevirtual 262, 3) := by decide +kernel
theorem dX9_takesTold_35 : decode cX9_takesTold 35 = .ok (.goto 7, 3) := by decide +kernel
theorem dX9_takesTold_38 : decode cX9_takesTold 38 = .ok (.aload_n 0, 1) := by decide +kernel
theorem dX9_takesTold_39 : decode cX9_takesTold 39 = .ok (.invokevirtual 265, 3) := by decide +kernel
theorem dX9_takesTold_42 : decode cX9_takesTold 42 = .ok (.putfield 274, 3) := by decide +kernel
theorem dX9_takesTold_45 : decode cX9_takesTold 45 = .ok (.aload_n 0, 1) := by decide +kernel
theorem dX9_takesTold_46 : decode cX9_takesTold 46 = .ok (.aload_n 0, 1) := by decide +kernel
theorem dX9_takesTold_47 : decode cX9_takesTold 47 = .ok (.getfield 274, 3) := by decide +kernel
theorem dX9_takesTold_50 : decode cX9_takesTold 50 = .ok (.ifCond .lt 7, 3) := by decide +kernel
theorem dX9_takesTold_53 : decode cX9_takesTold 53 = .ok (.iconst 1, 1) := by decide +kernel
theorem dX9_takesTold_54 : decode cX9_takesTold 54 = .ok (.goto 4, 3) := by decide +kernel
theorem dX9_takesTold_57 : decode cX9_takesTold 57 = .ok (.iconst 0, 1) := by decide +kernel
theorem dX9_takesTold_58 : decode cX9_takesTold 58 = .ok (.iconst 3, 1) := by decide +kernel
theorem dX9_takesTold_59 : decode cX9_takesTold 59 = .ok (.invokevirtual 239, 3) := by decide +kernel
theorem dX9_takesTold_62 : decode cX9_takesTold 62 = .ok (.ifCond .ne 5, 3) := by decide +kernel
theorem dX9_takesTold_65 : decode cX9_takesTold 65 = .ok (.iconst 0, 1) := by decide +kernel
theorem dX9_takesTold_66 : decode cX9_takesTold 66 = .ok (.ireturn, 1) := by decide +kernel
theorem dX9_takesTold_67 : decode cX9_takesTold 67 = .ok (.aload_n 0, 1) := by decide +kernel
theorem dX9_takesTold_68 : decode cX9_takesTold 68 = .ok (.invokevirtual 236, 3) := by decide +kernel
theorem dX9_takesTold_71 : decode cX9_takesTold 71 = .ok (.iconst 1, 1) := by decide +kernel
theorem dX9_takesTold_72 : decode cX9_takesTold 72 = .ok (.ireturn, 1) := by decide +kernel
theorem dX9_takesOf_0 : decode cX9_takesOf 0 = .ok (.iconst 0, 1) := by decide +kernel
theorem dX9_takesOf_1 : decode cX9_takesOf 1 = .ok (.istore_n 2, 1) := by decide +kernel
theorem dX9_takesOf_2 : decode cX9_takesOf 2 = .ok (.aload_n 0, 1) := by decide +kernel
theorem dX9_takesOf_3 : decode cX9_takesOf 3 = .ok (.ldc 221, 2) := by decide +kernel
theorem dX9_takesOf_5 : decode cX9_takesOf 5 = .ok (.invokevirtual 207, 3) := by decide +kernel
theorem dX9_takesOf_8 : decode cX9_takesOf 8 = .ok (.ifCond .eq 117, 3) := by decide +kernel
theorem dX9_takesOf_11 : decode cX9_takesOf 11 = .ok (.aload_n 0, 1) := by decide +kernel
theorem dX9_takesOf_12 : decode cX9_takesOf 12 = .ok (.iload_n 2, 1) := by decide +kernel
theorem dX9_takesOf_13 : decode cX9_takesOf 13 = .ok (.iconst 4, 1) := by decide +kernel
theorem dX9_takesOf_14 : decode cX9_takesOf 14 = .ok (.if_icmp .ge 7, 3) := by decide +kernel
theorem dX9_takesOf_17 : decode cX9_takesOf 17 = .ok (.iconst 1, 1) := by decide +kernel
theorem dX9_takesOf_18 : decode cX9_takesOf 18 = .ok (.goto 4, 3) := by decide +kernel
theorem dX9_takesOf_21 : decode cX9_takesOf 21 = .ok (.iconst 0, 1) := by decide +kernel
theorem dX9_takesOf_22 : decode cX9_takesOf 22 = .ok (.iconst 5, 1) := by decide +kernel
theorem dX9_takesOf_23 : decode cX9_takesOf 23 = .ok (.invokevirtual 239, 3) := by decide +kernel
theorem dX9_takesOf_26 : decode cX9_takesOf 26 = .ok (.ifCond .ne 5, 3) := by decide +kernel
theorem dX9_takesOf_29 : decode cX9_takesOf 29 = .ok (.iconst 0, 1) := by decide +kernel
theorem dX9_takesOf_30 : decode cX9_takesOf 30 = .ok (.ireturn, 1) := by decide +kernel
theorem dX9_takesOf_31 : decode cX9_takesOf 31 = .ok (.aload_n 0, 1) := by decide +kernel
theorem dX9_takesOf_32 : decode cX9_takesOf 32 = .ok (.invokevirtual 236, 3) := by decide +kernel
theorem dX9_takesOf_35 : decode cX9_takesOf 35 = .ok (.aload_n 0, 1) := by decide +kernel
theorem dX9_takesOf_36 : decode cX9_takesOf 36 = .ok (.aload_n 0, 1) := by decide +kernel
theorem dX9_takesOf_37 : decode cX9_takesOf 37 = .ok (.invokevirtual 259, 3) := by decide +kernel
theorem dX9_takesOf_40 : decode cX9_takesOf 40 = .ok (.iconst 1, 1) := by decide +kernel
theorem dX9_takesOf_41 : decode cX9_takesOf 41 = .ok (.invokevirtual 239, 3) := by decide +kernel
theorem dX9_takesOf_44 : decode cX9_takesOf 44 = .ok (.ifCond .ne 5, 3) := by decide +kernel
theorem dX9_takesOf_47 : decode cX9_takesOf 47 = .ok (.iconst 0, 1) := by decide +kernel
theorem dX9_takesOf_48 : decode cX9_takesOf 48 = .ok (.ireturn, 1) := by decide +kernel
theorem dX9_takesOf_49 : decode cX9_takesOf 49 = .ok (.aload_n 0, 1) := by decide +kernel
theorem dX9_takesOf_50 : decode cX9_takesOf 50 = .ok (.invokevirtual 262, 3) := by decide +kernel
theorem dX9_takesOf_53 : decode cX9_takesOf 53 = .ok (.istore_n 3, 1) := by decide +kernel
theorem dX9_takesOf_54 : decode cX9_takesOf 54 = .ok (.aload_n 0, 1) := by decide +kernel
theorem dX9_takesOf_55 : decode cX9_takesOf 55 = .ok (.iload_n 3, 1) := by decide +kernel
theorem dX9_takesOf_56 : decode cX9_takesOf 56 = .ok (.ifCond .lt 16, 3) := by decide +kernel
theorem dX9_takesOf_59 : decode cX9_takesOf 59 = .ok (.aload_n 0, 1) := by decide +kernel
theorem dX9_takesOf_60 : decode cX9_takesOf 60 = .ok (.getfield 51, 3) := by decide +kernel
theorem dX9_takesOf_63 : decode cX9_takesOf 63 = .ok (.iload_n 1, 1) := by decide +kernel
theorem dX9_takesOf_64 : decode cX9_takesOf 64 = .ok (.iaload, 1) := by decide +kernel
theorem dX9_takesOf_65 : decode cX9_takesOf 65 = .ok (.iload_n 3, 1) := by decide +kernel
theorem dX9_takesOf_66 : decode cX9_takesOf 66 = .ok (.ishr, 1) := by decide +kernel
theorem dX9_takesOf_67 : decode cX9_takesOf 67 = .ok (.iconst 1, 1) := by decide +kernel
theorem dX9_takesOf_68 : decode cX9_takesOf 68 = .ok (.iand, 1) := by decide +kernel
theorem dX9_takesOf_69 : decode cX9_takesOf 69 = .ok (.ifCond .ne 7, 3) := by decide +kernel
theorem dX9_takesOf_72 : decode cX9_takesOf 72 = .ok (.iconst 1, 1) := by decide +kernel
theorem dX9_takesOf_73 : decode cX9_takesOf 73 = .ok (.goto 4, 3) := by decide +kernel
theorem dX9_takesOf_76 : decode cX9_takesOf 76 = .ok (.iconst 0, 1) := by decide +kernel
theorem dX9_takesOf_77 : decode cX9_takesOf 77 = .ok (.iconst 2, 1) := by decide +kernel
theorem dX9_takesOf_78 : decode cX9_takesOf 78 = .ok (.invokevirtual 239, 3) := by decide +kernel
theorem dX9_takesOf_81 : decode cX9_takesOf 81 = .ok (.ifCond .eq 20, 3) := by decide +kernel
theorem dX9_takesOf_84 : decode cX9_takesOf 84 = .ok (.aload_n 0, 1) := by decide +kernel
theorem dX9_takesOf_85 : decode cX9_takesOf 85 = .ok (.iload_n 3, 1) := by decide +kernel
theorem dX9_takesOf_86 : decode cX9_takesOf 86 = .ok (.ifCond .lt 7, 3) := by decide +kernel
theorem dX9_takesOf_89 : decode cX9_takesOf 89 = .ok (.iconst 1, 1) := by decide +kernel
theorem dX9_takesOf_90 : decode cX9_takesOf 90 = .ok (.goto 4, 3) := by decide +kernel
theorem dX9_takesOf_93 : decode cX9_takesOf 93 = .ok (.iconst 0, 1) := by decide +kernel
theorem dX9_takesOf_94 : decode cX9_takesOf 94 = .ok (.iconst 3, 1) := by decide +kernel
theorem dX9_takesOf_95 : decode cX9_takesOf 95 = .ok (.invokevirtual 239, 3) := by decide +kernel
theorem dX9_takesOf_98 : decode cX9_takesOf 98 = .ok (.ifCond .ne 5, 3) := by decide +kernel
theorem dX9_takesOf_101 : decode cX9_takesOf 101 = .ok (.iconst 0, 1) := by decide +kernel
theorem dX9_takesOf_102 : decode cX9_takesOf 102 = .ok (.ireturn, 1) := by decide +kernel
theorem dX9_takesOf_103 : decode cX9_takesOf 103 = .ok (.aload_n 0, 1) := by decide +kernel
theorem dX9_takesOf_104 : decode cX9_takesOf 104 = .ok (.getfield 51, 3) := by decide +kernel
theorem dX9_takesOf_107 : decode cX9_takesOf 107 = .ok (.iload_n 1, 1) := by decide +kernel
theorem dX9_takesOf_108 : decode cX9_takesOf 108 = .ok (.dup2, 1) := by decide +kernel
theorem dX9_takesOf_109 : decode cX9_takesOf 109 = .ok (.iaload, 1) := by decide +kernel
theorem dX9_takesOf_110 : decode cX9_takesOf 110 = .ok (.iconst 1, 1) := by decide +kernel
theorem dX9_takesOf_111 : decode cX9_takesOf 111 = .ok (.iload_n 3, 1) := by decide +kernel
theorem dX9_takesOf_112 : decode cX9_takesOf 112 = .ok (.ishl, 1) := by decide +kernel
theorem dX9_takesOf_113 : decode cX9_takesOf 113 = .ok (.ior, 1) := by decide +kernel
theorem dX9_takesOf_114 : decode cX9_takesOf 114 = .ok (.iastore, 1) := by decide +kernel
theorem dX9_takesOf_115 : decode cX9_takesOf 115 = .ok (.aload_n 0, 1) := by decide +kernel
theorem dX9_takesOf_116 : decode cX9_takesOf 116 = .ok (.invokevirtual 236, 3) := by decide +kernel
theorem dX9_takesOf_119 : decode cX9_takesOf 119 = .ok (.iinc 2 1, 3) := by decide +kernel
theorem dX9_takesOf_122 : decode cX9_takesOf 122 = .ok (.goto (-120), 3) := by decide +kernel
theorem dX9_takesOf_125 : decode cX9_takesOf 125 = .ok (.iconst 1, 1) := by decide +kernel
theorem dX9_takesOf_126 : decode cX9_takesOf 126 = .ok (.ireturn, 1) := by decide +kernel
theorem qw_441 : (Cond.constantLong RX9 119 (1700) : Cond) ∈ TBL := List.mem_of_getElem? (i := 487) (by decide +kernel)
theorem qw_442 : (Cond.constantLong RX9 121 (2299) : Cond) ∈ TBL := List.mem_of_getElem? (i := 488) (by decide +kernel)
theorem qw_443 : (Cond.code yX9_within cX9_within 6 (some .boolean) : Cond) ∈ TBL := List.mem_of_getElem? (i := 359) (by decide +kernel)
theorem qw_444 : (Cond.methodLink RX9 123 yX9_within : Cond) ∈ TBL := List.mem_of_getElem? (i := 357) (by decide +kernel)
theorem qw_445 : (Cond.static yX9_within : Cond) ∈ TBL := List.mem_of_getElem? (i := 358) (by decide +kernel)
theorem qw_446 : (Cond.constantLong RX9 127 (12) : Cond) ∈ TBL := List.mem_of_getElem? (i := 489) (by decide +kernel)
theorem qw_447 : (Cond.constantLong RX9 129 (219144) : Cond) ∈ TBL := List.mem_of_getElem? (i := 513) (by decide +kernel)
theorem qw_448 : (Cond.constantLong RX9 131 (3) : Cond) ∈ TBL := List.mem_of_getElem? (i := 514) (by decide +kernel)
theorem qw_449 : (Cond.constantLong RX9 133 (219145) : Cond) ∈ TBL := List.mem_of_getElem? (i := 538) (by decide +kernel)
theorem qw_450 : (Cond.constantLong RX9 135 (-600) : Cond) ∈ TBL := List.mem_of_getElem? (i := 539) (by decide +kernel)
theorem qw_451 : (Cond.constantLong RX9 137 (600) : Cond) ∈ TBL := List.mem_of_getElem? (i := 540) (by decide +kernel)
theorem qw_452 : (Cond.code yX9_plusYears cX9_plusYears 5 (some .int) : Cond) ∈ TBL := List.mem_of_getElem? (i := 544) (by decide +kernel)
theorem qw_453 : (Cond.methodLink RX9 139 yX9_plusYears : Cond) ∈ TBL := List.mem_of_getElem? (i := 541) (by decide +kernel)
theorem qw_454 : (Cond.instanceMethod yX9_plusYears : Cond) ∈ TBL := List.mem_of_getElem? (i := 542) (by decide +kernel)
theorem qw_455 : (Cond.selects RX9 yX9_plusYears yX9_plusYears : Cond) ∈ TBL := List.mem_of_getElem? (i := 543) (by decide +kernel)
theorem qw_456 : (Cond.fieldLink RX9 151 "ClosedUntilModel" "to" "I" : Cond) ∈ TBL := List.mem_of_getElem? (i := 351) (by decide +kernel)
theorem qw_457 : (Cond.code yX9_see cX9_see 2 (some .int) : Cond) ∈ TBL := List.mem_of_getElem? (i := 376) (by decide +kernel)
theorem qw_458 : (Cond.methodLink RX9 157 yX9_see : Cond) ∈ TBL := List.mem_of_getElem? (i := 373) (by decide +kernel)
theorem qw_459 : (Cond.instanceMethod yX9_see : Cond) ∈ TBL := List.mem_of_getElem? (i := 374) (by decide +kernel)
theorem qw_460 : (Cond.selects RX9 yX9_see yX9_see : Cond) ∈ TBL := List.mem_of_getElem? (i := 375) (by decide +kernel)
theorem qw_461 : (Cond.fieldLink RX9 163 "ClosedUntilModel" "value" "I" : Cond) ∈ TBL := List.mem_of_getElem? (i := 365) (by decide +kernel)
theorem qw_462 : (Cond.constantLong RX9 170 (97) : Cond) ∈ TBL := List.mem_of_getElem? (i := 367) (by decide +kernel)
theorem qw_463 : (Cond.constantLong RX9 172 (122) : Cond) ∈ TBL := List.mem_of_getElem? (i := 368) (by decide +kernel)
theorem qw_464 : (Cond.constantLong RX9 176 (48) : Cond) ∈ TBL := List.mem_of_getElem? (i := 370) (by decide +kernel)
theorem qw_465 : (Cond.constantLong RX9 178 (57) : Cond) ∈ TBL := List.mem_of_getElem? (i := 371) (by decide +kernel)
theorem qw_466 : (Cond.constant RX9 180 (100000) : Cond) ∈ TBL := List.mem_of_getElem? (i := 372) (by decide +kernel)
theorem qw_467 : (Cond.code yX9_steps cX9_steps 2 none : Cond) ∈ TBL := List.mem_of_getElem? (i := 363) (by decide +kernel)
theorem qw_468 : (Cond.methodLink RX9 236 yX9_steps : Cond) ∈ TBL := List.mem_of_getElem? (i := 360) (by decide +kernel)
theorem qw_469 : (Cond.instanceMethod yX9_steps : Cond) ∈ TBL := List.mem_of_getElem? (i := 361) (by decide +kernel)
theorem qw_470 : (Cond.selects RX9 yX9_steps yX9_steps : Cond) ∈ TBL := List.mem_of_getElem? (i := 362) (by decide +kernel)
theorem qw_471 : (Cond.code yX9_must cX9_must 3 (some .boolean) : Cond) ∈ TBL := List.mem_of_getElem? (i := 393) (by decide +kernel)
theorem qw_472 : (Cond.methodLink RX9 239 yX9_must : Cond) ∈ TBL := List.mem_of_getElem? (i := 390) (by decide +kernel)
theorem qw_473 : (Cond.instanceMethod yX9_must : Cond) ∈ TBL := List.mem_of_getElem? (i := 391) (by decide +kernel)
theorem qw_474 : (Cond.selects RX9 yX9_must yX9_must : Cond) ∈ TBL := List.mem_of_getElem? (i := 392) (by decide +kernel)
theorem qw_475 : (Cond.fieldLink RX9 243 "ClosedUntilModel" "numberHere" "I" : Cond) ∈ TBL := List.mem_of_getElem? (i := 437) (by decide +kernel)
theorem qw_476 : (Cond.fieldLink RX9 246 "ClosedUntilModel" "datePlace" "I" : Cond) ∈ TBL := List.mem_of_getElem? (i := 404) (by decide +kernel)
theorem qw_477 : (Cond.code yX9_takesNumber cX9_takesNumber 3 (some .boolean) : Cond) ∈ TBL := List.mem_of_getElem? (i := 441) (by decide +kernel)
theorem qw_478 : (Cond.methodLink RX9 249 yX9_takesNumber : Cond) ∈ TBL := List.mem_of_getElem? (i := 438) (by decide +kernel)
theorem qw_479 : (Cond.instanceMethod yX9_takesNumber : Cond) ∈ TBL := List.mem_of_getElem? (i := 439) (by decide +kernel)
theorem qw_480 : (Cond.selects RX9 yX9_takesNumber yX9_takesNumber : Cond) ∈ TBL := List.mem_of_getElem? (i := 440) (by decide +kernel)
theorem qw_481 : (Cond.fieldLink RX9 253 "ClosedUntilModel" "dateHere" "I" : Cond) ∈ TBL := List.mem_of_getElem? (i := 403) (by decide +kernel)
theorem qw_482 : (Cond.code yX9_isName cX9_isName 1 (some .boolean) : Cond) ∈ TBL := List.mem_of_getElem? (i := 412) (by decide +kernel)
theorem qw_483 : (Cond.methodLink RX9 259 yX9_isName : Cond) ∈ TBL := List.mem_of_getElem? (i := 409) (by decide +kernel)
theorem qw_484 : (Cond.instanceMethod yX9_isName : Cond) ∈ TBL := List.mem_of_getElem? (i := 410) (by decide +kernel)
theorem qw_485 : (Cond.selects RX9 yX9_isName yX9_isName : Cond) ∈ TBL := List.mem_of_getElem? (i := 411) (by decide +kernel)
theorem qw_486 : (Cond.code yX9_personNamed cX9_personNamed 2 (some .int) : Cond) ∈ TBL := List.mem_of_getElem? (i := 420) (by decide +kernel)
theorem qw_487 : (Cond.methodLink RX9 262 yX9_personNamed : Cond) ∈ TBL := List.mem_of_getElem? (i := 417) (by decide +kernel)
theorem qw_488 : (Cond.instanceMethod yX9_personNamed : Cond) ∈ TBL := List.mem_of_getElem? (i := 418) (by decide +kernel)
theorem qw_489 : (Cond.selects RX9 yX9_personNamed yX9_personNamed : Cond) ∈ TBL := List.mem_of_getElem? (i := 419) (by decide +kernel)
theorem qw_490 : (Cond.code yX9_depositNamed cX9_depositNamed 2 (some .int) : Cond) ∈ TBL := List.mem_of_getElem? (i := 424) (by decide +kernel)
theorem qw_491 : (Cond.methodLink RX9 265 yX9_depositNamed : Cond) ∈ TBL := List.mem_of_getElem? (i := 421) (by decide +kernel)
theorem qw_492 : (Cond.instanceMethod yX9_depositNamed : Cond) ∈ TBL := List.mem_of_getElem? (i := 422) (by decide +kernel)
theorem qw_493 : (Cond.selects RX9 yX9_depositNamed yX9_depositNamed : Cond) ∈ TBL := List.mem_of_getElem? (i := 423) (by decide +kernel)
theorem qw_494 : (Cond.code yX9_pieceNamed cX9_pieceNamed 2 (some .int) : Cond) ∈ TBL := List.mem_of_getElem? (i := 428) (by decide +kernel)
theorem qw_495 : (Cond.methodLink RX9 268 yX9_pieceNamed : Cond) ∈ TBL := List.mem_of_getElem? (i := 425) (by decide +kernel)
theorem qw_496 : (Cond.instanceMethod yX9_pieceNamed : Cond) ∈ TBL := List.mem_of_getElem? (i := 426) (by decide +kernel)
theorem qw_497 : (Cond.selects RX9 yX9_pieceNamed yX9_pieceNamed : Cond) ∈ TBL := List.mem_of_getElem? (i := 427) (by decide +kernel)
theorem qw_498 : (Cond.fieldLink RX9 271 "ClosedUntilModel" "nameHere" "J" : Cond) ∈ TBL := List.mem_of_getElem? (i := 402) (by decide +kernel)
theorem qw_499 : (Cond.fieldLink RX9 274 "ClosedUntilModel" "foundHere" "I" : Cond) ∈ TBL := List.mem_of_getElem? (i := 462) (by decide +kernel)
theorem qw_500 : (Cond.fieldLink RX9 51 "ClosedUntilModel" "ofPeople" "[I" : Cond) ∈ TBL := List.mem_of_getElem? (i := 179) (by decide +kernel)
theorem rgP2_30027b6 {D : va_G} {cl : List vw_C} {H : Heap} {c0 c1 : Nat × va_E} (h : va_P D cl ([c0, c1]) H) : va_P D cl ([c0]) H := h.sub (ws' := [c0]) [0] rfl
theorem rgD2_3e08a98 {A : Nat → Prop} {c0 c1 : Nat × va_E} (h : va_D A ([c0, c1])) : va_D A ([c0]) := h.sub (ws' := [c0]) [0] (by decide +kernel) rfl
theorem rgJ2_6b57713 {A0 : Nat → Prop} {D : va_G} {cl : List vw_C} {H H1 : Heap} {c0 c1 : Nat × va_E} {d0 : Nat × va_E} (hP : va_P D cl ([c0, c1]) H) (hD : va_D A0 ([c0, c1])) (hk : ∀ q : Nat, q < H.size → ¬ va_A ([c0]) H.size q → H1[q]? = H[q]?) (hF : ∀ q, va_A ([c0]) H.size q → A0 q) (hP1 : va_P D cl ([d0]) H1) (hD1 : va_D (va_A ([c0]) H.size) ([d0])) : va_P D cl ([d0, c1]) H1 ∧ va_D A0 ([d0, c1]) := by
  obtain ⟨h1, h2⟩ := va_join (ws := [c0, c1]) (wc := [c0]) (wr := [c1]) (w1 := [d0]) hP hD [0] [1] rfl rfl (by decide +kernel) (by decide +kernel) hk hF hP1 hD1
  exact ⟨va_P.sub (ws := [c1, d0]) (ws' := [d0, c1]) h1 [1, 0] rfl, va_D.sub (ws := [c1, d0]) (ws' := [d0, c1]) h2 [1, 0] (by decide +kernel) rfl⟩
theorem rgP8_82ce498 {D : va_G} {cl : List vw_C} {H : Heap} {c0 c1 c2 c3 c4 c5 c6 c7 : Nat × va_E} (h : va_P D cl ([c0, c1, c2, c3, c4, c5, c6, c7]) H) : va_P D cl ([c0]) H := h.sub (ws' := [c0]) [0] rfl
theorem rgL8_41f41bf {c0 c1 c2 c3 c4 c5 c6 c7 : Nat × va_E} : (([c0, c1, c2, c3, c4, c5, c6, c7] : va_W))[0]? = some c0 := rfl
theorem rgD8_dd76439 {A : Nat → Prop} {c0 c1 c2 c3 c4 c5 c6 c7 : Nat × va_E} (h : va_D A ([c0, c1, c2, c3, c4, c5, c6, c7])) : va_D A ([c0]) := h.sub (ws' := [c0]) [0] (by decide +kernel) rfl
theorem rgJ8_3415f12 {A0 : Nat → Prop} {D : va_G} {cl : List vw_C} {H H1 : Heap} {c0 c1 c2 c3 c4 c5 c6 c7 : Nat × va_E} {d0 : Nat × va_E} (hP : va_P D cl ([c0, c1, c2, c3, c4, c5, c6, c7]) H) (hD : va_D A0 ([c0, c1, c2, c3, c4, c5, c6, c7])) (hk : ∀ q : Nat, q < H.size → ¬ va_A ([c0]) H.size q → H1[q]? = H[q]?) (hF : ∀ q, va_A ([c0]) H.size q → A0 q) (hP1 : va_P D cl ([d0]) H1) (hD1 : va_D (va_A ([c0]) H.size) ([d0])) : va_P D cl ([d0, c1, c2, c3, c4, c5, c6, c7]) H1 ∧ va_D A0 ([d0, c1, c2, c3, c4, c5, c6, c7]) := by
  obtain ⟨h1, h2⟩ := va_join (ws := [c0, c1, c2, c3, c4, c5, c6, c7]) (wc := [c0]) (wr := [c1, c2, c3, c4, c5, c6, c7]) (w1 := [d0]) hP hD [0] [1, 2, 3, 4, 5, 6, 7] rfl rfl (by decide +kernel) (by decide +kernel) hk hF hP1 hD1
  exact ⟨va_P.sub (ws := [c1, c2, c3, c4, c5, c6, c7, d0]) (ws' := [d0, c1, c2, c3, c4, c5, c6, c7]) h1 [7, 0, 1, 2, 3, 4, 5, 6] rfl, va_D.sub (ws := [c1, c2, c3, c4, c5, c6, c7, d0]) (ws' := [d0, c1, c2, c3, c4, c5, c6, c7]) h2 [7, 0, 1, 2, 3, 4, 5, 6] (by decide +kernel) rfl⟩
theorem rgP8_1ed3a8d {D : va_G} {cl : List vw_C} {H : Heap} {c0 c1 c2 c3 c4 c5 c6 c7 : Nat × va_E} (h : va_P D cl ([c0, c1, c2, c3, c4, c5, c6, c7]) H) : va_P D cl ([c0, c2, c5]) H := h.sub (ws' := [c0, c2, c5]) [0, 2, 5] rfl
theorem rgK7_194e198 {D : va_G} {cl : List vw_C} {U : State} {t0 t1 t2 t3 t4 t5 t6 : ClassId × FieldType} (h : va_K D cl [t0, t1, t2, t3, t4, t5, t6] U) : va_K D cl [t1, t4] U := h.sub (tys' := [t1, t4]) [1, 4] rfl
theorem rgP8_d78cbf3 {D : va_G} {cl : List vw_C} {H : Heap} {c0 c1 c2 c3 c4 c5 c6 c7 : Nat × va_E} (h : va_P D cl ([c0, c1, c2, c3, c4, c5, c6, c7]) H) : va_P D cl ([c0, c3, c6]) H := h.sub (ws' := [c0, c3, c6]) [0, 3, 6] rfl
theorem rgK7_5853438 {D : va_G} {cl : List vw_C} {U : State} {t0 t1 t2 t3 t4 t5 t6 : ClassId × FieldType} (h : va_K D cl [t0, t1, t2, t3, t4, t5, t6] U) : va_K D cl [t2, t5] U := h.sub (tys' := [t2, t5]) [2, 5] rfl
theorem rgP8_1569325 {D : va_G} {cl : List vw_C} {H : Heap} {c0 c1 c2 c3 c4 c5 c6 c7 : Nat × va_E} (h : va_P D cl ([c0, c1, c2, c3, c4, c5, c6, c7]) H) : va_P D cl ([c0, c4, c7]) H := h.sub (ws' := [c0, c4, c7]) [0, 4, 7] rfl
theorem rgK7_cd7aae6 {D : va_G} {cl : List vw_C} {U : State} {t0 t1 t2 t3 t4 t5 t6 : ClassId × FieldType} (h : va_K D cl [t0, t1, t2, t3, t4, t5, t6] U) : va_K D cl [t3, t6] U := h.sub (tys' := [t3, t6]) [3, 6] rfl
theorem rgS8_9a11695 {A : Nat → Prop} {D : va_G} {cl : List vw_C} {H : Heap} {c0 c1 c2 c3 c4 c5 c6 c7 : Nat × va_E} {d e : Nat × va_E} (hP : va_P D cl (([c0, c1, c2, c3, c4, c5, c6, c7]).set 0 d) H) (hD : va_D A (([c0, c1, c2, c3, c4, c5, c6, c7]).set 0 d)) (h : d = e) : va_P D cl ([e, c1, c2, c3, c4, c5, c6, c7]) H ∧ va_D A ([e, c1, c2, c3, c4, c5, c6, c7]) := by subst h; exact ⟨hP, hD⟩
theorem rgP8_955f498 {D : va_G} {cl : List vw_C} {H : Heap} {c0 c1 c2 c3 c4 c5 c6 c7 : Nat × va_E} (h : va_P D cl ([c0, c1, c2, c3, c4, c5, c6, c7]) H) : va_P D cl ([c0, c1]) H := h.sub (ws' := [c0, c1]) [0, 1] rfl
theorem rgK7_b1c58f2 {D : va_G} {cl : List vw_C} {U : State} {t0 t1 t2 t3 t4 t5 t6 : ClassId × FieldType} (h : va_K D cl [t0, t1, t2, t3, t4, t5, t6] U) : va_K D cl [t0] U := h.sub (tys' := [t0]) [0] rfl
theorem rgD8_ed008bd {A : Nat → Prop} {c0 c1 c2 c3 c4 c5 c6 c7 : Nat × va_E} (h : va_D A ([c0, c1, c2, c3, c4, c5, c6, c7])) : va_D A ([c0, c1]) := h.sub (ws' := [c0, c1]) [0, 1] (by decide +kernel) rfl
theorem rgJ8_15367d9 {A0 : Nat → Prop} {D : va_G} {cl : List vw_C} {H H1 : Heap} {c0 c1 c2 c3 c4 c5 c6 c7 : Nat × va_E} {d0 d1 : Nat × va_E} (hP : va_P D cl ([c0, c1, c2, c3, c4, c5, c6, c7]) H) (hD : va_D A0 ([c0, c1, c2, c3, c4, c5, c6, c7])) (hk : ∀ q : Nat, q < H.size → ¬ va_A ([c0, c1]) H.size q → H1[q]? = H[q]?) (hF : ∀ q, va_A ([c0, c1]) H.size q → A0 q) (hP1 : va_P D cl ([d0, d1]) H1) (hD1 : va_D (va_A ([c0, c1]) H.size) ([d0, d1])) : va_P D cl ([d0, d1, c2, c3, c4, c5, c6, c7]) H1 ∧ va_D A0 ([d0, d1, c2, c3, c4, c5, c6, c7]) := by
  obtain ⟨h1, h2⟩ := va_join (ws := [c0, c1, c2, c3, c4, c5, c6, c7]) (wc := [c0, c1]) (wr := [c2, c3, c4, c5, c6, c7]) (w1 := [d0, d1]) hP hD [0, 1] [2, 3, 4, 5, 6, 7] rfl rfl (by decide +kernel) (by decide +kernel) hk hF hP1 hD1
  exact ⟨va_P.sub (ws := [c2, c3, c4, c5, c6, c7, d0, d1]) (ws' := [d0, d1, c2, c3, c4, c5, c6, c7]) h1 [6, 7, 0, 1, 2, 3, 4, 5] rfl, va_D.sub (ws := [c2, c3, c4, c5, c6, c7, d0, d1]) (ws' := [d0, d1, c2, c3, c4, c5, c6, c7]) h2 [6, 7, 0, 1, 2, 3, 4, 5] (by decide +kernel) rfl⟩
theorem rgP5_1120ef2 {D : va_G} {cl : List vw_C} {H : Heap} {c0 c1 c2 c3 c4 : Nat × va_E} (h : va_P D cl ([c0, c1, c2, c3, c4]) H) : va_P D cl ([c0, c1]) H := h.sub (ws' := [c0, c1]) [0, 1] rfl
theorem rgK4_63375da {D : va_G} {cl : List vw_C} {U : State} {t0 t1 t2 t3 : ClassId × FieldType} (h : va_K D cl [t0, t1, t2, t3] U) : va_K D cl [t0] U := h.sub (tys' := [t0]) [0] rfl
theorem rgD5_721afdf {A : Nat → Prop} {c0 c1 c2 c3 c4 : Nat × va_E} (h : va_D A ([c0, c1, c2, c3, c4])) : va_D A ([c0, c1]) := h.sub (ws' := [c0, c1]) [0, 1] (by decide +kernel) rfl
theorem rgJ5_833ae3d {A0 : Nat → Prop} {D : va_G} {cl : List vw_C} {H H1 : Heap} {c0 c1 c2 c3 c4 : Nat × va_E} {d0 d1 : Nat × va_E} (hP : va_P D cl ([c0, c1, c2, c3, c4]) H) (hD : va_D A0 ([c0, c1, c2, c3, c4])) (hk : ∀ q : Nat, q < H.size → ¬ va_A ([c0, c1]) H.size q → H1[q]? = H[q]?) (hF : ∀ q, va_A ([c0, c1]) H.size q → A0 q) (hP1 : va_P D cl ([d0, d1]) H1) (hD1 : va_D (va_A ([c0, c1]) H.size) ([d0, d1])) : va_P D cl ([d0, d1, c2, c3, c4]) H1 ∧ va_D A0 ([d0, d1, c2, c3, c4]) := by
  obtain ⟨h1, h2⟩ := va_join (ws := [c0, c1, c2, c3, c4]) (wc := [c0, c1]) (wr := [c2, c3, c4]) (w1 := [d0, d1]) hP hD [0, 1] [2, 3, 4] rfl rfl (by decide +kernel) (by decide +kernel) hk hF hP1 hD1
  exact ⟨va_P.sub (ws := [c2, c3, c4, d0, d1]) (ws' := [d0, d1, c2, c3, c4]) h1 [3, 4, 0, 1, 2] rfl, va_D.sub (ws := [c2, c3, c4, d0, d1]) (ws' := [d0, d1, c2, c3, c4]) h2 [3, 4, 0, 1, 2] (by decide +kernel) rfl⟩
theorem rgP5_9ac2766 {D : va_G} {cl : List vw_C} {H : Heap} {c0 c1 c2 c3 c4 : Nat × va_E} (h : va_P D cl ([c0, c1, c2, c3, c4]) H) : va_P D cl ([c0, c2, c3]) H := h.sub (ws' := [c0, c2, c3]) [0, 2, 3] rfl
theorem rgK4_5a6b506 {D : va_G} {cl : List vw_C} {U : State} {t0 t1 t2 t3 : ClassId × FieldType} (h : va_K D cl [t0, t1, t2, t3] U) : va_K D cl [t1, t2] U := h.sub (tys' := [t1, t2]) [1, 2] rfl
set_option maxHeartbeats 4000000 in
set_option maxRecDepth 100000 in
theorem k_X9_day (l : Launch) (dC : Nat → ClassId) (dI : Nat → Nat → Nat) (g : Gv) (sz : Nat) (a0 : Nat) (a1 : Int32) (a2 : Int32) (a3 : Int32) (a0_0 : Int32) (a0_1 : Int32) (a0_2 : Int32) (a0_3 : Int32) (a0_4 : Nat) (a0_5 : Int32) (a0_6 : Int32) (a0_7 : Int32) (a0_8 : Int32) (a0_9 : Int32) (a0_10 : Int32) (a0_11 : Int64) (a0_12 : Int32) (a0_13 : Int32) (a0_14 : Int32) (a0_15 : Int32) (a0_16 : Int32) (a0_17 : Int32) (a0_18 : Nat) (a0_19 : Nat) (a0_20 : Nat) (a0_21 : Nat) (a0_22 : Nat) (a0_23 : Nat) (a0_24 : Nat) (a0_25 : Nat) (a0_26 : Nat) (a0_27 : Nat) (a0_28 : Nat) (a0_29 : Nat) (a0_30 : Nat) (a0_31 : Nat) (a0_32 : Nat) (a0_33 : Nat) (a0_34 : Nat) (a0_35 : Nat) (a0_36 : Int64) (a0_37 : Int32) (a0_38 : Nat) (a0_39 : Nat) (a0_40 : Int32) (a0_41 : Nat) (a0_42 : Nat) (a0_43 : Nat) (h_a0_5 : 0 ≤ a0_5.toInt ∧ a0_5.toInt ≤ 1000) (h_a0_6 : 0 ≤ a0_6.toInt ∧ a0_6.toInt ≤ 1000) (h_a0_7 : 0 ≤ a0_7.toInt ∧ a0_7.toInt ≤ 1000) (h_a0_8 : 0 ≤ a0_8.toInt ∧ a0_8.toInt ≤ 1000) (h_a0_17 : 0 ≤ a0_17.toInt ∧ a0_17.toInt ≤ 1) (h_a0_37 : (-1) ≤ a0_37.toInt ∧ a0_37.toInt ≤ 23) (h_a0_40 : 0 ≤ a0_40.toInt ∧ a0_40.toInt ≤ 12) : Met l yX9_day (.code yX9_day cX9_day 4 (some .int) :: TBL) ({ frames := 3, cells := 0, slots := 0, locals := 66 }) (va_Pc [.ref a0, .int a1, .int a2, .int a3] (fun U => U.heap.size = sz ∧ va_P (dC, dI) vwCl [(a0, .inr (8, [.int a0_0, .int a0_1, .int a0_2, .int a0_3, .ref a0_4, .int a0_5, .int a0_6, .int a0_7, .int a0_8, .int a0_9, .int a0_10, .long a0_11, .int a0_12, .int a0_13, .int a0_14, .int a0_15, .int a0_16, .int a0_17, .ref a0_18, .ref a0_19, .ref a0_20, .ref a0_21, .ref a0_22, .ref a0_23, .ref a0_24, .ref a0_25, .ref a0_26, .ref a0_27, .ref a0_28, .ref a0_29, .ref a0_30, .ref a0_31, .ref a0_32, .ref a0_33, .ref a0_34, .ref a0_35, .long a0_36, .int a0_37, .ref a0_38, .ref a0_39, .int a0_40, .ref a0_41, .ref a0_42, .ref a0_43]))] U.heap ∧ va_K (dC, dI) vwCl [] U ∧ va_D (fun _ => True) [(a0, .inr (8, [.int a0_0, .int a0_1, .int a0_2, .int a0_3, .ref a0_4, .int a0_5, .int a0_6, .int a0_7, .int a0_8, .int a0_9, .int a0_10, .long a0_11, .int a0_12, .int a0_13, .int a0_14, .int a0_15, .int a0_16, .int a0_17, .ref a0_18, .ref a0_19, .ref a0_20, .ref a0_21, .ref a0_22, .ref a0_23, .ref a0_24, .ref a0_25, .ref a0_26, .ref a0_27, .ref a0_28, .ref a0_29, .ref a0_30, .ref a0_31, .ref a0_32, .ref a0_33, .ref a0_34, .ref a0_35, .long a0_36, .int a0_37, .ref a0_38, .ref a0_39, .int a0_40, .ref a0_41, .ref a0_42, .ref a0_43]))] ∧ Ev g (va_A [(a0, .inr (8, [.int a0_0, .int a0_1, .int a0_2, .int a0_3, .ref a0_4, .int a0_5, .int a0_6, .int a0_7, .int a0_8, .int a0_9, .int a0_10, .long a0_11, .int a0_12, .int a0_13, .int a0_14, .int a0_15, .int a0_16, .int a0_17, .ref a0_18, .ref a0_19, .ref a0_20, .ref a0_21, .ref a0_22, .ref a0_23, .ref a0_24, .ref a0_25, .ref a0_26, .ref a0_27, .ref a0_28, .ref a0_29, .ref a0_30, .ref a0_31, .ref a0_32, .ref a0_33, .ref a0_34, .ref a0_35, .long a0_36, .int a0_37, .ref a0_38, .ref a0_39, .int a0_40, .ref a0_41, .ref a0_42, .ref a0_43]))] sz) U)) (va_Qi (fun (r : Int32) (u : Int32) => u = r) (fun (u : Int32) (t : State) => ∃ (za0_0 : Int32), va_P (dC, dI) vwCl [(a0, .inr (8, [.int za0_0, .int a0_1, .int a0_2, .int a0_3, .ref a0_4, .int a0_5, .int a0_6, .int a0_7, .int a0_8, .int a0_9, .int a0_10, .long a0_11, .int a0_12, .int a0_13, .int a0_14, .int a0_15, .int a0_16, .int a0_17, .ref a0_18, .ref a0_19, .ref a0_20, .ref a0_21, .ref a0_22, .ref a0_23, .ref a0_24, .ref a0_25, .ref a0_26, .ref a0_27, .ref a0_28, .ref a0_29, .ref a0_30, .ref a0_31, .ref a0_32, .ref a0_33, .ref a0_34, .ref a0_35, .long a0_36, .int a0_37, .ref a0_38, .ref a0_39, .int a0_40, .ref a0_41, .ref a0_42, .ref a0_43]))] t.heap ∧ va_K (dC, dI) vwCl [] t ∧ va_D (va_A [(a0, .inr (8, [.int a0_0, .int a0_1, .int a0_2, .int a0_3, .ref a0_4, .int a0_5, .int a0_6, .int a0_7, .int a0_8, .int a0_9, .int a0_10, .long a0_11, .int a0_12, .int a0_13, .int a0_14, .int a0_15, .int a0_16, .int a0_17, .ref a0_18, .ref a0_19, .ref a0_20, .ref a0_21, .ref a0_22, .ref a0_23, .ref a0_24, .ref a0_25, .ref a0_26, .ref a0_27, .ref a0_28, .ref a0_29, .ref a0_30, .ref a0_31, .ref a0_32, .ref a0_33, .ref a0_34, .ref a0_35, .long a0_36, .int a0_37, .ref a0_38, .ref a0_39, .int a0_40, .ref a0_41, .ref a0_42, .ref a0_43]))] sz) [(a0, .inr (8, [.int za0_0, .int a0_1, .int a0_2, .int a0_3, .ref a0_4, .int a0_5, .int a0_6, .int a0_7, .int a0_8, .int a0_9, .int a0_10, .long a0_11, .int a0_12, .int a0_13, .int a0_14, .int a0_15, .int a0_16, .int a0_17, .ref a0_18, .ref a0_19, .ref a0_20, .ref a0_21, .ref a0_22, .ref a0_23, .ref a0_24, .ref a0_25, .ref a0_26, .ref a0_27, .ref a0_28, .ref a0_29, .ref a0_30, .ref a0_31, .ref a0_32, .ref a0_33, .ref a0_34, .ref a0_35, .long a0_36, .int a0_37, .ref a0_38, .ref a0_39, .int a0_40, .ref a0_41, .ref a0_42, .ref a0_43]))]) (va_A [(a0, .inr (8, [.int a0_0, .int a0_1, .int a0_2, .int a0_3, .ref a0_4, .int a0_5, .int a0_6, .int a0_7, .int a0_8, .int a0_9, .int a0_10, .long a0_11, .int a0_12, .int a0_13, .int a0_14, .int a0_15, .int a0_16, .int a0_17, .ref a0_18, .ref a0_19, .ref a0_20, .ref a0_21, .ref a0_22, .ref a0_23, .ref a0_24, .ref a0_25, .ref a0_26, .ref a0_27, .ref a0_28, .ref a0_29, .ref a0_30, .ref a0_31, .ref a0_32, .ref a0_33, .ref a0_34, .ref a0_35, .long a0_36, .int a0_37, .ref a0_38, .ref a0_39, .int a0_40, .ref a0_41, .ref a0_42, .ref a0_43]))] sz)) 0 0 (va_A [(a0, .inr (8, [.int a0_0, .int a0_1, .int a0_2, .int a0_3, .ref a0_4, .int a0_5, .int a0_6, .int a0_7, .int a0_8, .int a0_9, .int a0_10, .long a0_11, .int a0_12, .int a0_13, .int a0_14, .int a0_15, .int a0_16, .int a0_17, .ref a0_18, .ref a0_19, .ref a0_20, .ref a0_21, .ref a0_22, .ref a0_23, .ref a0_24, .ref a0_25, .ref a0_26, .ref a0_27, .ref a0_28, .ref a0_29, .ref a0_30, .ref a0_31, .ref a0_32, .ref a0_33, .ref a0_34, .ref a0_35, .long a0_36, .int a0_37, .ref a0_38, .ref a0_39, .int a0_40, .ref a0_41, .ref a0_42, .ref a0_43]))] sz) := by
  refine Met.ofW (cc := cX9_day) (maxL := 4) (ret := (some .int)) (by decide) rfl ?_
  intro p e s m args below meth c s₁ B hml hv
  obtain ⟨rfl, hsz, hP, hK, hD0, hE⟩ := hv
  have hx := B.exec
  have hb := B.bytes
  have hr := B.returns
  have hts0 := atoms_spec (ws := (.code yX9_day cX9_day 4 (some .int) :: TBL)) B.pre
  have hts := fun (w : Cond) (h : w ∈ TBL) => hts0 w (List.mem_cons_of_mem _ h)
  have hown : s.vm.findClass RX9 = some m.cls := findClass_of_methodNamed B.named
  have hlocks := B.notSynchronized
  have hN := hE.1
  subst hsz
  have hD := hD0.self (sz := s.heap.size)
  generalize hAe : va_A [(a0, .inr (8, [.int a0_0, .int a0_1, .int a0_2, .int a0_3, .ref a0_4, .int a0_5, .int a0_6, .int a0_7, .int a0_8, .int a0_9, .int a0_10, .long a0_11, .int a0_12, .int a0_13, .int a0_14, .int a0_15, .int a0_16, .int a0_17, .ref a0_18, .ref a0_19, .ref a0_20, .ref a0_21, .ref a0_22, .ref a0_23, .ref a0_24, .ref a0_25, .ref a0_26, .ref a0_27, .ref a0_28, .ref a0_29, .ref a0_30, .ref a0_31, .ref a0_32, .ref a0_33, .ref a0_34, .ref a0_35, .long a0_36, .int a0_37, .ref a0_38, .ref a0_39, .int a0_40, .ref a0_41, .ref a0_42, .ref a0_43]))] s.heap.size = A at hD hE ⊢
  have hA : ∀ q : Nat, s.heap.size ≤ q → A q := fun q h => by rw [← hAe]; exact Or.inr h
  have hS : va_S A s.heap s.heap [] := va_S.rf
  replace hP : va_P (dC, dI) vwCl [(a0, .inr (8, [.int a0_0, .int a0_1, .int a0_2, .int a0_3, .ref a0_4, .int a0_5, .int a0_6, .int a0_7, .int a0_8, .int a0_9, .int a0_10, .long a0_11, .int a0_12, .int a0_13, .int a0_14, .int a0_15, .int a0_16, .int a0_17, .ref a0_18, .ref a0_19, .ref a0_20, .ref a0_21, .ref a0_22, .ref a0_23, .ref a0_24, .ref a0_25, .ref a0_26, .ref a0_27, .ref a0_28, .ref a0_29, .ref a0_30, .ref a0_31, .ref a0_32, .ref a0_33, .ref a0_34, .ref a0_35, .long a0_36, .int a0_37, .ref a0_38, .ref a0_39, .int a0_40, .ref a0_41, .ref a0_42, .ref a0_43]))] s.heap := hP
  have hl := lv_entry ([.ref a0, .int a1, .int a2, .int a3]) (n := 4) (Nat.le_of_ble_eq_true rfl)
  rw [lg_entry_eq]
  generalize (lg_sl ([.ref a0, .int a1, .int a2, .int a3]) ++ List.replicate (4 - (lg_sl ([.ref a0, .int a1, .int a2, .int a3])).length) Slot.unset).toArray = ls at hl ⊢
  have hl : lv_has ls 4 [(0, .ref a0), (1, .int a1), (2, .int a2), (3, .int a3)] := hl
  have b_a1 := i32b a1
  have b_a2 := i32b a2
  have b_a3 := i32b a3
  have b_a0_0 := i32b a0_0
  have b_a0_1 := i32b a0_1
  have b_a0_2 := i32b a0_2
  have b_a0_3 := i32b a0_3
  have b_a0_9 := i32b a0_9
  have b_a0_10 := i32b a0_10
  have b_a0_12 := i32b a0_12
  have b_a0_13 := i32b a0_13
  have b_a0_14 := i32b a0_14
  have b_a0_15 := i32b a0_15
  have b_a0_16 := i32b a0_16
  refine lv_aload_n hx hb dX9_day_0 rfl (lv_at hl 0 rfl) ?_
  refine lv_iconst (v := 0) hx hb dX9_day_1 (by decide) ?_
  refine va_put (D := (dC, dI)) (ci := 8) (v := .int 0) (ty := .int) (C := RX9) (T := TX9) (N := 44) hx hb hts inlX9 tyX9 tyX9_ok nmX9 hown hK hP hD hS 0 rgL1_f9e15c6 rfl 0 (by decide) (hts (.fieldLink RX9 85 "ClosedUntilModel" "thrown" "I") qw_408) (fun _ h9 => h9) rfl (by decide +kernel) rfl rfl (Nat.le_of_ble_eq_true rfl) dX9_day_2 (fun H locs hP9 hD9 hS9 => ?_)
  clear hP hD hS
  obtain ⟨hP, hD⟩ := rgS1_4a8b427 (e := (a0, .inr (8, [.int 0, .int a0_1, .int a0_2, .int a0_3, .ref a0_4, .int a0_5, .int a0_6, .int a0_7, .int a0_8, .int a0_9, .int a0_10, .long a0_11, .int a0_12, .int a0_13, .int a0_14, .int a0_15, .int a0_16, .int a0_17, .ref a0_18, .ref a0_19, .ref a0_20, .ref a0_21, .ref a0_22, .ref a0_23, .ref a0_24, .ref a0_25, .ref a0_26, .ref a0_27, .ref a0_28, .ref a0_29, .ref a0_30, .ref a0_31, .ref a0_32, .ref a0_33, .ref a0_34, .ref a0_35, .long a0_36, .int a0_37, .ref a0_38, .ref a0_39, .int a0_40, .ref a0_41, .ref a0_42, .ref a0_43]))) hP9 hD9 rfl
  have hS := hS9; clear hP9 hD9 hS9
  refine lv_iload_n hx hb dX9_day_5 rfl (lv_at hl 1 rfl) ?_
  refine lv_i2l hx hb dX9_day_6 rfl ?_
  refine lv_ldc2 (v := 1700) hx hb hown (hts (.constantLong RX9 119 (1700)) qw_441) dX9_day_7 ?_
  refine lv_ldc2 (v := 2299) hx hb hown (hts (.constantLong RX9 121 (2299)) qw_442) dX9_day_10 ?_
  have hPc := (rgP1_e1bfc9f hP)
  have hKc := hK
  refine vp_callSi ((va_runS (As := [.long (a1.toInt64), .long 1700, .long 2299]) (rest := []) ⟨hx, hb, hml, hown, hts⟩ (k_X9_within l dC dI g ((a1.toInt64)) (1700) (2299) (a1.toInt) (1700) (2299) (w_li rfl) (by decide) (by decide)) (va_cwS 3 hts (gwS qw_444 qw_445 qw_386 qw_443) rfl rfl rfl (by decide +kernel) ⟨Nat.le_of_ble_eq_true rfl, Nat.le_of_ble_eq_true rfl⟩) ⟨fun a U g9 mk q => ⟨q.1, q.2.1, va_K.moved (u := U) (U := U.calling g9 mk a) (Vm.Alike.refl U.vm) q.2.2.1, Ev.bl q.2.2.2⟩, fun U hU hW => ⟨rfl, atB hU hPc, va_K.moved hW.alike hKc, hE.go hS (fun _ h => h.elim) hU hW⟩⟩ rfl rfl hl.1 rfl (lv_room (Nat.le_of_ble_eq_true rfl)) dX9_day_13 ⟨Nat.le_of_ble_eq_true rfl, Nat.le_of_ble_eq_true rfl⟩)).run (fun r1 h_r1 => ?_)
  have h_r1 : (r1 = 0 ∨ r1 = 1) ∧ ((r1.toInt = 1 ∧ 1700 ≤ a1.toInt ∧ a1.toInt ≤ 2299) ∨ (r1.toInt = 0 ∧ ¬ (1700 ≤ a1.toInt ∧ a1.toInt ≤ 2299))) := h_r1
  have b_r1 := z01 h_r1.1
  refine lv_if_eq (tgt := 55) hx hb dX9_day_16 (by decide) (fun c16_2 => ?_) (fun c16_2 => ?_)
  · have c16_2 : r1.toInt = 0 := (cv_eq rfl (by decide)).mp c16_2
    refine lv_iconst (v := (-1)) hx hb dX9_day_55 (by decide) ?_
    have qcm1 : ((-1) : Int32).toInt = (-1) := by decide
    have qc0 : (0 : Int32).toInt = 0 := by decide
    refine W.widen (k := 0) (n := 0) (Nat.le_of_ble_eq_true rfl) (Nat.le_of_ble_eq_true rfl) ?_
    have hP9 := hP
    have hD9 := hD
    have hK9 := hK
    exact W.iret (v := (-1)) hx hb hr (fun t ht hW => ⟨⟨(-1), (-1), rfl, rfl, 0, atB ht hP9, va_K.moved hW.alike hK9, hD9⟩, hS.F ht⟩) hS.2.2 dX9_day_56
  · have c16_2 : ¬ (r1.toInt = 0) := mt (cv_eq rfl (by decide)).mpr c16_2
    refine lv_iload_n hx hb dX9_day_19 rfl (lv_at hl 2 rfl) ?_
    refine lv_i2l hx hb dX9_day_20 rfl ?_
    refine lv_lconst (v := 1) hx hb dX9_day_21 (by decide) ?_
    refine lv_ldc2 (v := 12) hx hb hown (hts (.constantLong RX9 127 (12)) qw_446) dX9_day_22 ?_
    have hPc := (rgP1_e1bfc9f hP)
    have hKc := hK
    refine vp_callSi ((va_runS (As := [.long (a2.toInt64), .long 1, .long 12]) (rest := []) ⟨hx, hb, hml, hown, hts⟩ (k_X9_within l dC dI g ((a2.toInt64)) (1) (12) (a2.toInt) (1) (12) (w_li rfl) (by decide) (by decide)) (va_cwS 3 hts (gwS qw_444 qw_445 qw_386 qw_443) rfl rfl rfl (by decide +kernel) ⟨Nat.le_of_ble_eq_true rfl, Nat.le_of_ble_eq_true rfl⟩) ⟨fun a U g9 mk q => ⟨q.1, q.2.1, va_K.moved (u := U) (U := U.calling g9 mk a) (Vm.Alike.refl U.vm) q.2.2.1, Ev.bl q.2.2.2⟩, fun U hU hW => ⟨rfl, atB hU hPc, va_K.moved hW.alike hKc, hE.go hS (fun _ h => h.elim) hU hW⟩⟩ rfl rfl hl.1 rfl (lv_room (Nat.le_of_ble_eq_true rfl)) dX9_day_25 ⟨Nat.le_of_ble_eq_true rfl, Nat.le_of_ble_eq_true rfl⟩)).run (fun r3 h_r3 => ?_)
    have h_r3 : (r3 = 0 ∨ r3 = 1) ∧ ((r3.toInt = 1 ∧ 1 ≤ a2.toInt ∧ a2.toInt ≤ 12) ∨ (r3.toInt = 0 ∧ ¬ (1 ≤ a2.toInt ∧ a2.toInt ≤ 12))) := h_r3
    have b_r3 := z01 h_r3.1
    refine lv_if_eq (tgt := 55) hx hb dX9_day_28 (by decide) (fun c28_4 => ?_) (fun c28_4 => ?_)
    · have c28_4 : r3.toInt = 0 := (cv_eq rfl (by decide)).mp c28_4
      refine lv_iconst (v := (-1)) hx hb dX9_day_55 (by decide) ?_
      have qcm1 : ((-1) : Int32).toInt = (-1) := by decide
      have qc0 : (0 : Int32).toInt = 0 := by decide
      refine W.widen (k := 0) (n := 0) (Nat.le_of_ble_eq_true rfl) (Nat.le_of_ble_eq_true rfl) ?_
      have hP9 := hP
      have hD9 := hD
      have hK9 := hK
      exact W.iret (v := (-1)) hx hb hr (fun t ht hW => ⟨⟨(-1), (-1), rfl, rfl, 0, atB ht hP9, va_K.moved hW.alike hK9, hD9⟩, hS.F ht⟩) hS.2.2 dX9_day_56
    · have c28_4 : ¬ (r3.toInt = 0) := mt (cv_eq rfl (by decide)).mpr c28_4
      refine lv_iload_n hx hb dX9_day_31 rfl (lv_at hl 3 rfl) ?_
      refine lv_i2l hx hb dX9_day_32 rfl ?_
      refine lv_lconst (v := 1) hx hb dX9_day_33 (by decide) ?_
      refine lv_iload_n hx hb dX9_day_34 rfl (lv_at hl 1 rfl) ?_
      refine lv_iload_n hx hb dX9_day_35 rfl (lv_at hl 2 rfl) ?_
      have hPc := (rgP1_e1bfc9f hP)
      have hKc := hK
      refine vp_callSi ((va_runS (As := [.int a1, .int a2]) (rest := [.long 1, .long (a3.toInt64)]) ⟨hx, hb, hml, hown, hts⟩ (k_X9_daysIn l dC dI g (a1) (a2) ) (va_cwS 2 hts (gwS qw_393 qw_394 qw_386 qw_392) rfl rfl rfl (by decide +kernel) ⟨Nat.le_of_ble_eq_true rfl, Nat.le_of_ble_eq_true rfl⟩) ⟨fun a U g9 mk q => ⟨q.1, q.2.1, va_K.moved (u := U) (U := U.calling g9 mk a) (Vm.Alike.refl U.vm) q.2.2.1, Ev.bl q.2.2.2⟩, fun U hU hW => ⟨rfl, atB hU hPc, va_K.moved hW.alike hKc, hE.go hS (fun _ h => h.elim) hU hW⟩⟩ rfl rfl hl.1 rfl (lv_room (Nat.le_of_ble_eq_true rfl)) dX9_day_36 ⟨Nat.le_of_ble_eq_true rfl, Nat.le_of_ble_eq_true rfl⟩)).run (fun r5 h_r5 => ?_)
      have h_r5 : (28 ≤ r5.toInt ∧ r5.toInt ≤ 31) := h_r5
      refine lv_i2l hx hb dX9_day_39 rfl ?_
      have hPc := (rgP1_e1bfc9f hP)
      have hKc := hK
      refine vp_callSi ((va_runS (As := [.long (a3.toInt64), .long 1, .long (r5.toInt64)]) (rest := []) ⟨hx, hb, hml, hown, hts⟩ (k_X9_within l dC dI g ((a3.toInt64)) (1) ((r5.toInt64)) (a3.toInt) (1) (r5.toInt) (w_li rfl) (by decide) (w_li rfl)) (va_cwS 3 hts (gwS qw_444 qw_445 qw_386 qw_443) rfl rfl rfl (by decide +kernel) ⟨Nat.le_of_ble_eq_true rfl, Nat.le_of_ble_eq_true rfl⟩) ⟨fun a U g9 mk q => ⟨q.1, q.2.1, va_K.moved (u := U) (U := U.calling g9 mk a) (Vm.Alike.refl U.vm) q.2.2.1, Ev.bl q.2.2.2⟩, fun U hU hW => ⟨rfl, atB hU hPc, va_K.moved hW.alike hKc, hE.go hS (fun _ h => h.elim) hU hW⟩⟩ rfl rfl hl.1 rfl (lv_room (Nat.le_of_ble_eq_true rfl)) dX9_day_40 ⟨Nat.le_of_ble_eq_true rfl, Nat.le_of_ble_eq_true rfl⟩)).run (fun r6 h_r6 => ?_)
      have h_r6 : (r6 = 0 ∨ r6 = 1) ∧ ((r6.toInt = 1 ∧ 1 ≤ a3.toInt ∧ a3.toInt ≤ r5.toInt) ∨ (r6.toInt = 0 ∧ ¬ (1 ≤ a3.toInt ∧ a3.toInt ≤ r5.toInt))) := h_r6
      have b_r6 := z01 h_r6.1
      refine lv_if_eq (tgt := 55) hx hb dX9_day_43 (by decide) (fun c43_7 => ?_) (fun c43_7 => ?_)
      · have c43_7 : r6.toInt = 0 := (cv_eq rfl (by decide)).mp c43_7
        refine lv_iconst (v := (-1)) hx hb dX9_day_55 (by decide) ?_
        have qcm1 : ((-1) : Int32).toInt = (-1) := by decide
        have qc0 : (0 : Int32).toInt = 0 := by decide
        refine W.widen (k := 0) (n := 0) (Nat.le_of_ble_eq_true rfl) (Nat.le_of_ble_eq_true rfl) ?_
        have hP9 := hP
        have hD9 := hD
        have hK9 := hK
        exact W.iret (v := (-1)) hx hb hr (fun t ht hW => ⟨⟨(-1), (-1), rfl, rfl, 0, atB ht hP9, va_K.moved hW.alike hK9, hD9⟩, hS.F ht⟩) hS.2.2 dX9_day_56
      · have c43_7 : ¬ (r6.toInt = 0) := mt (cv_eq rfl (by decide)).mpr c43_7
        refine lv_iload_n hx hb dX9_day_46 rfl (lv_at hl 1 rfl) ?_
        refine lv_iload_n hx hb dX9_day_47 rfl (lv_at hl 2 rfl) ?_
        refine lv_iload_n hx hb dX9_day_48 rfl (lv_at hl 3 rfl) ?_
        have hPc := (rgP1_e1bfc9f hP)
        have hKc := hK
        refine vp_callSi ((va_runS (As := [.int a1, .int a2, .int a3]) (rest := []) ⟨hx, hb, hml, hown, hts⟩ (k_X9_dayOf l dC dI g (a1) (a2) (a3) ) (va_cwS 3 hts (gwS qw_404 qw_405 qw_386 qw_403) rfl rfl rfl (by decide +kernel) ⟨Nat.le_of_ble_eq_true rfl, Nat.le_of_ble_eq_true rfl⟩) ⟨fun a U g9 mk q => ⟨q.1, q.2.1, va_K.moved (u := U) (U := U.calling g9 mk a) (Vm.Alike.refl U.vm) q.2.2.1, Ev.bl q.2.2.2⟩, fun U hU hW => ⟨rfl, atB hU hPc, va_K.moved hW.alike hKc, hE.go hS (fun _ h => h.elim) hU hW⟩⟩ rfl rfl hl.1 rfl (lv_room (Nat.le_of_ble_eq_true rfl)) dX9_day_49 ⟨Nat.le_of_ble_eq_true rfl, Nat.le_of_ble_eq_true rfl⟩)).run (fun r8 h_r8 => ?_)
        have b_r8 := i32b r8
        refine lv_goto (tgt := 56) hx hb dX9_day_52 (by decide) ?_
        have qc0 : (0 : Int32).toInt = 0 := by decide
        refine W.widen (k := 0) (n := 0) (Nat.le_of_ble_eq_true rfl) (Nat.le_of_ble_eq_true rfl) ?_
        have hP9 := hP
        have hD9 := hD
        have hK9 := hK
        exact W.iret (v := r8) hx hb hr (fun t ht hW => ⟨⟨r8, r8, rfl, rfl, 0, atB ht hP9, va_K.moved hW.alike hK9, hD9⟩, hS.F ht⟩) hS.2.2 dX9_day_56
set_option maxHeartbeats 4000000 in
set_option maxRecDepth 100000 in
theorem k_X9_date (l : Launch) (dC : Nat → ClassId) (dI : Nat → Nat → Nat) (g : Gv) (sz : Nat) (a0 : Nat) (a1 : Int32) (a2 : Int32) (a0_0 : Int32) (a0_1 : Int32) (a0_2 : Int32) (a0_3 : Int32) (a0_4 : Nat) (a0_5 : Int32) (a0_6 : Int32) (a0_7 : Int32) (a0_8 : Int32) (a0_9 : Int32) (a0_10 : Int32) (a0_11 : Int64) (a0_12 : Int32) (a0_13 : Int32) (a0_14 : Int32) (a0_15 : Int32) (a0_16 : Int32) (a0_17 : Int32) (a0_18 : Nat) (a0_19 : Nat) (a0_20 : Nat) (a0_21 : Nat) (a0_22 : Nat) (a0_23 : Nat) (a0_24 : Nat) (a0_25 : Nat) (a0_26 : Nat) (a0_27 : Nat) (a0_28 : Nat) (a0_29 : Nat) (a0_30 : Nat) (a0_31 : Nat) (a0_32 : Nat) (a0_33 : Nat) (a0_34 : Nat) (a0_35 : Nat) (a0_36 : Int64) (a0_37 : Int32) (a0_38 : Nat) (a0_39 : Nat) (a0_40 : Int32) (a0_41 : Nat) (a0_42 : Nat) (a0_43 : Nat) (h_a0_5 : 0 ≤ a0_5.toInt ∧ a0_5.toInt ≤ 1000) (h_a0_6 : 0 ≤ a0_6.toInt ∧ a0_6.toInt ≤ 1000) (h_a0_7 : 0 ≤ a0_7.toInt ∧ a0_7.toInt ≤ 1000) (h_a0_8 : 0 ≤ a0_8.toInt ∧ a0_8.toInt ≤ 1000) (h_a0_17 : 0 ≤ a0_17.toInt ∧ a0_17.toInt ≤ 1) (h_a0_37 : (-1) ≤ a0_37.toInt ∧ a0_37.toInt ≤ 23) (h_a0_40 : 0 ≤ a0_40.toInt ∧ a0_40.toInt ≤ 12) : Met l yX9_date (.code yX9_date cX9_date 3 (some .int) :: TBL) ({ frames := 3, cells := 0, slots := 0, locals := 63 }) (va_Pc [.ref a0, .int a1, .int a2] (fun U => U.heap.size = sz ∧ va_P (dC, dI) vwCl [(a0, .inr (8, [.int a0_0, .int a0_1, .int a0_2, .int a0_3, .ref a0_4, .int a0_5, .int a0_6, .int a0_7, .int a0_8, .int a0_9, .int a0_10, .long a0_11, .int a0_12, .int a0_13, .int a0_14, .int a0_15, .int a0_16, .int a0_17, .ref a0_18, .ref a0_19, .ref a0_20, .ref a0_21, .ref a0_22, .ref a0_23, .ref a0_24, .ref a0_25, .ref a0_26, .ref a0_27, .ref a0_28, .ref a0_29, .ref a0_30, .ref a0_31, .ref a0_32, .ref a0_33, .ref a0_34, .ref a0_35, .long a0_36, .int a0_37, .ref a0_38, .ref a0_39, .int a0_40, .ref a0_41, .ref a0_42, .ref a0_43]))] U.heap ∧ va_K (dC, dI) vwCl [] U ∧ va_D (fun _ => True) [(a0, .inr (8, [.int a0_0, .int a0_1, .int a0_2, .int a0_3, .ref a0_4, .int a0_5, .int a0_6, .int a0_7, .int a0_8, .int a0_9, .int a0_10, .long a0_11, .int a0_12, .int a0_13, .int a0_14, .int a0_15, .int a0_16, .int a0_17, .ref a0_18, .ref a0_19, .ref a0_20, .ref a0_21, .ref a0_22, .ref a0_23, .ref a0_24, .ref a0_25, .ref a0_26, .ref a0_27, .ref a0_28, .ref a0_29, .ref a0_30, .ref a0_31, .ref a0_32, .ref a0_33, .ref a0_34, .ref a0_35, .long a0_36, .int a0_37, .ref a0_38, .ref a0_39, .int a0_40, .ref a0_41, .ref a0_42, .ref a0_43]))] ∧ Ev g (va_A [(a0, .inr (8, [.int a0_0, .int a0_1, .int a0_2, .int a0_3, .ref a0_4, .int a0_5, .int a0_6, .int a0_7, .int a0_8, .int a0_9, .int a0_10, .long a0_11, .int a0_12, .int a0_13, .int a0_14, .int a0_15, .int a0_16, .int a0_17, .ref a0_18, .ref a0_19, .ref a0_20, .ref a0_21, .ref a0_22, .ref a0_23, .ref a0_24, .ref a0_25, .ref a0_26, .ref a0_27, .ref a0_28, .ref a0_29, .ref a0_30, .ref a0_31, .ref a0_32, .ref a0_33, .ref a0_34, .ref a0_35, .long a0_36, .int a0_37, .ref a0_38, .ref a0_39, .int a0_40, .ref a0_41, .ref a0_42, .ref a0_43]))] sz) U)) (va_Qi (fun (r : Int32) (u : Int32) => u = r) (fun (u : Int32) (t : State) => ∃ (za0_0 : Int32) (za0_1 : Int32) (za0_2 : Int32) (za0_3 : Int32), va_P (dC, dI) vwCl [(a0, .inr (8, [.int za0_0, .int za0_1, .int za0_2, .int za0_3, .ref a0_4, .int a0_5, .int a0_6, .int a0_7, .int a0_8, .int a0_9, .int a0_10, .long a0_11, .int a0_12, .int a0_13, .int a0_14, .int a0_15, .int a0_16, .int a0_17, .ref a0_18, .ref a0_19, .ref a0_20, .ref a0_21, .ref a0_22, .ref a0_23, .ref a0_24, .ref a0_25, .ref a0_26, .ref a0_27, .ref a0_28, .ref a0_29, .ref a0_30, .ref a0_31, .ref a0_32, .ref a0_33, .ref a0_34, .ref a0_35, .long a0_36, .int a0_37, .ref a0_38, .ref a0_39, .int a0_40, .ref a0_41, .ref a0_42, .ref a0_43]))] t.heap ∧ va_K (dC, dI) vwCl [] t ∧ va_D (va_A [(a0, .inr (8, [.int a0_0, .int a0_1, .int a0_2, .int a0_3, .ref a0_4, .int a0_5, .int a0_6, .int a0_7, .int a0_8, .int a0_9, .int a0_10, .long a0_11, .int a0_12, .int a0_13, .int a0_14, .int a0_15, .int a0_16, .int a0_17, .ref a0_18, .ref a0_19, .ref a0_20, .ref a0_21, .ref a0_22, .ref a0_23, .ref a0_24, .ref a0_25, .ref a0_26, .ref a0_27, .ref a0_28, .ref a0_29, .ref a0_30, .ref a0_31, .ref a0_32, .ref a0_33, .ref a0_34, .ref a0_35, .long a0_36, .int a0_37, .ref a0_38, .ref a0_39, .int a0_40, .ref a0_41, .ref a0_42, .ref a0_43]))] sz) [(a0, .inr (8, [.int za0_0, .int za0_1, .int za0_2, .int za0_3, .ref a0_4, .int a0_5, .int a0_6, .int a0_7, .int a0_8, .int a0_9, .int a0_10, .long a0_11, .int a0_12, .int a0_13, .int a0_14, .int a0_15, .int a0_16, .int a0_17, .ref a0_18, .ref a0_19, .ref a0_20, .ref a0_21, .ref a0_22, .ref a0_23, .ref a0_24, .ref a0_25, .ref a0_26, .ref a0_27, .ref a0_28, .ref a0_29, .ref a0_30, .ref a0_31, .ref a0_32, .ref a0_33, .ref a0_34, .ref a0_35, .long a0_36, .int a0_37, .ref a0_38, .ref a0_39, .int a0_40, .ref a0_41, .ref a0_42, .ref a0_43]))]) (va_A [(a0, .inr (8, [.int a0_0, .int a0_1, .int a0_2, .int a0_3, .ref a0_4, .int a0_5, .int a0_6, .int a0_7, .int a0_8, .int a0_9, .int a0_10, .long a0_11, .int a0_12, .int a0_13, .int a0_14, .int a0_15, .int a0_16, .int a0_17, .ref a0_18, .ref a0_19, .ref a0_20, .ref a0_21, .ref a0_22, .ref a0_23, .ref a0_24, .ref a0_25, .ref a0_26, .ref a0_27, .ref a0_28, .ref a0_29, .ref a0_30, .ref a0_31, .ref a0_32, .ref a0_33, .ref a0_34, .ref a0_35, .long a0_36, .int a0_37, .ref a0_38, .ref a0_39, .int a0_40, .ref a0_41, .ref a0_42, .ref a0_43]))] sz)) 0 0 (va_A [(a0, .inr (8, [.int a0_0, .int a0_1, .int a0_2, .int a0_3, .ref a0_4, .int a0_5, .int a0_6, .int a0_7, .int a0_8, .int a0_9, .int a0_10, .long a0_11, .int a0_12, .int a0_13, .int a0_14, .int a0_15, .int a0_16, .int a0_17, .ref a0_18, .ref a0_19, .ref a0_20, .ref a0_21, .ref a0_22, .ref a0_23, .ref a0_24, .ref a0_25, .ref a0_26, .ref a0_27, .ref a0_28, .ref a0_29, .ref a0_30, .ref a0_31, .ref a0_32, .ref a0_33, .ref a0_34, .ref a0_35, .long a0_36, .int a0_37, .ref a0_38, .ref a0_39, .int a0_40, .ref a0_41, .ref a0_42, .ref a0_43]))] sz) := by
  refine Met.ofW (cc := cX9_date) (maxL := 3) (ret := (some .int)) (by decide) rfl ?_
  intro p e s m args below meth c s₁ B hml hv
  obtain ⟨rfl, hsz, hP, hK, hD0, hE⟩ := hv
  have hx := B.exec
  have hb := B.bytes
  have hr := B.returns
  have hts0 := atoms_spec (ws := (.code yX9_date cX9_date 3 (some .int) :: TBL)) B.pre
  have hts := fun (w : Cond) (h : w ∈ TBL) => hts0 w (List.mem_cons_of_mem _ h)
  have hown : s.vm.findClass RX9 = some m.cls := findClass_of_methodNamed B.named
  have hlocks := B.notSynchronized
  have hN := hE.1
  subst hsz
  have hD := hD0.self (sz := s.heap.size)
  generalize hAe : va_A [(a0, .inr (8, [.int a0_0, .int a0_1, .int a0_2, .int a0_3, .ref a0_4, .int a0_5, .int a0_6, .int a0_7, .int a0_8, .int a0_9, .int a0_10, .long a0_11, .int a0_12, .int a0_13, .int a0_14, .int a0_15, .int a0_16, .int a0_17, .ref a0_18, .ref a0_19, .ref a0_20, .ref a0_21, .ref a0_22, .ref a0_23, .ref a0_24, .ref a0_25, .ref a0_26, .ref a0_27, .ref a0_28, .ref a0_29, .ref a0_30, .ref a0_31, .ref a0_32, .ref a0_33, .ref a0_34, .ref a0_35, .long a0_36, .int a0_37, .ref a0_38, .ref a0_39, .int a0_40, .ref a0_41, .ref a0_42, .ref a0_43]))] s.heap.size = A at hD hE ⊢
  have hA : ∀ q : Nat, s.heap.size ≤ q → A q := fun q h => by rw [← hAe]; exact Or.inr h
  have hS : va_S A s.heap s.heap [] := va_S.rf
  replace hP : va_P (dC, dI) vwCl [(a0, .inr (8, [.int a0_0, .int a0_1, .int a0_2, .int a0_3, .ref a0_4, .int a0_5, .int a0_6, .int a0_7, .int a0_8, .int a0_9, .int a0_10, .long a0_11, .int a0_12, .int a0_13, .int a0_14, .int a0_15, .int a0_16, .int a0_17, .ref a0_18, .ref a0_19, .ref a0_20, .ref a0_21, .ref a0_22, .ref a0_23, .ref a0_24, .ref a0_25, .ref a0_26, .ref a0_27, .ref a0_28, .ref a0_29, .ref a0_30, .ref a0_31, .ref a0_32, .ref a0_33, .ref a0_34, .ref a0_35, .long a0_36, .int a0_37, .ref a0_38, .ref a0_39, .int a0_40, .ref a0_41, .ref a0_42, .ref a0_43]))] s.heap := hP
  have hl := lv_entry ([.ref a0, .int a1, .int a2]) (n := 3) (Nat.le_of_ble_eq_true rfl)
  rw [lg_entry_eq]
  generalize (lg_sl ([.ref a0, .int a1, .int a2]) ++ List.replicate (3 - (lg_sl ([.ref a0, .int a1, .int a2])).length) Slot.unset).toArray = ls at hl ⊢
  have hl : lv_has ls 3 [(0, .ref a0), (1, .int a1), (2, .int a2)] := hl
  have b_a1 := i32b a1
  have b_a2 := i32b a2
  have b_a0_0 := i32b a0_0
  have b_a0_1 := i32b a0_1
  have b_a0_2 := i32b a0_2
  have b_a0_3 := i32b a0_3
  have b_a0_9 := i32b a0_9
  have b_a0_10 := i32b a0_10
  have b_a0_12 := i32b a0_12
  have b_a0_13 := i32b a0_13
  have b_a0_14 := i32b a0_14
  have b_a0_15 := i32b a0_15
  have b_a0_16 := i32b a0_16
  refine lv_aload_n hx hb dX9_date_0 rfl (lv_at hl 0 rfl) ?_
  refine lv_iconst (v := 0) hx hb dX9_date_1 (by decide) ?_
  refine va_put (D := (dC, dI)) (ci := 8) (v := .int 0) (ty := .int) (C := RX9) (T := TX9) (N := 44) hx hb hts inlX9 tyX9 tyX9_ok nmX9 hown hK hP hD hS 0 rgL1_f9e15c6 rfl 0 (by decide) (hts (.fieldLink RX9 85 "ClosedUntilModel" "thrown" "I") qw_408) (fun _ h9 => h9) rfl (by decide +kernel) rfl rfl (Nat.le_of_ble_eq_true rfl) dX9_date_2 (fun H locs hP9 hD9 hS9 => ?_)
  clear hP hD hS
  obtain ⟨hP, hD⟩ := rgS1_4a8b427 (e := (a0, .inr (8, [.int 0, .int a0_1, .int a0_2, .int a0_3, .ref a0_4, .int a0_5, .int a0_6, .int a0_7, .int a0_8, .int a0_9, .int a0_10, .long a0_11, .int a0_12, .int a0_13, .int a0_14, .int a0_15, .int a0_16, .int a0_17, .ref a0_18, .ref a0_19, .ref a0_20, .ref a0_21, .ref a0_22, .ref a0_23, .ref a0_24, .ref a0_25, .ref a0_26, .ref a0_27, .ref a0_28, .ref a0_29, .ref a0_30, .ref a0_31, .ref a0_32, .ref a0_33, .ref a0_34, .ref a0_35, .long a0_36, .int a0_37, .ref a0_38, .ref a0_39, .int a0_40, .ref a0_41, .ref a0_42, .ref a0_43]))) hP9 hD9 rfl
  have hS := hS9; clear hP9 hD9 hS9
  refine lv_iload_n hx hb dX9_date_5 rfl (lv_at hl 1 rfl) ?_
  refine lv_i2l hx hb dX9_date_6 rfl ?_
  refine lv_lconst (v := 0) hx hb dX9_date_7 (by decide) ?_
  refine lv_ldc2 (v := 219144) hx hb hown (hts (.constantLong RX9 129 (219144)) qw_447) dX9_date_8 ?_
  have hPc := (rgP1_e1bfc9f hP)
  have hKc := hK
  refine vp_callSi ((va_runS (As := [.long (a1.toInt64), .long 0, .long 219144]) (rest := []) ⟨hx, hb, hml, hown, hts⟩ (k_X9_within l dC dI g ((a1.toInt64)) (0) (219144) (a1.toInt) (0) (219144) (w_li rfl) (by decide) (by decide)) (va_cwS 3 hts (gwS qw_444 qw_445 qw_386 qw_443) rfl rfl rfl (by decide +kernel) ⟨Nat.le_of_ble_eq_true rfl, Nat.le_of_ble_eq_true rfl⟩) ⟨fun a U g9 mk q => ⟨q.1, q.2.1, va_K.moved (u := U) (U := U.calling g9 mk a) (Vm.Alike.refl U.vm) q.2.2.1, Ev.bl q.2.2.2⟩, fun U hU hW => ⟨rfl, atB hU hPc, va_K.moved hW.alike hKc, hE.go hS (fun _ h => h.elim) hU hW⟩⟩ rfl rfl hl.1 rfl (lv_room (Nat.le_of_ble_eq_true rfl)) dX9_date_11 ⟨Nat.le_of_ble_eq_true rfl, Nat.le_of_ble_eq_true rfl⟩)).run (fun r1 h_r1 => ?_)
  have h_r1 : (r1 = 0 ∨ r1 = 1) ∧ ((r1.toInt = 1 ∧ 0 ≤ a1.toInt ∧ a1.toInt ≤ 219144) ∨ (r1.toInt = 0 ∧ ¬ (0 ≤ a1.toInt ∧ a1.toInt ≤ 219144))) := h_r1
  have b_r1 := z01 h_r1.1
  refine lv_if_eq (tgt := 29) hx hb dX9_date_14 (by decide) (fun c14_2 => ?_) (fun c14_2 => ?_)
  · have c14_2 : r1.toInt = 0 := (cv_eq rfl (by decide)).mp c14_2
    refine lv_iconst (v := (-1)) hx hb dX9_date_29 (by decide) ?_
    have qcm1 : ((-1) : Int32).toInt = (-1) := by decide
    have qc0 : (0 : Int32).toInt = 0 := by decide
    refine W.widen (k := 0) (n := 0) (Nat.le_of_ble_eq_true rfl) (Nat.le_of_ble_eq_true rfl) ?_
    have hP9 := hP
    have hD9 := hD
    have hK9 := hK
    exact W.iret (v := (-1)) hx hb hr (fun t ht hW => ⟨⟨(-1), (-1), rfl, rfl, 0, a0_1, a0_2, a0_3, atB ht hP9, va_K.moved hW.alike hK9, hD9⟩, hS.F ht⟩) hS.2.2 dX9_date_30
  · have c14_2 : ¬ (r1.toInt = 0) := mt (cv_eq rfl (by decide)).mpr c14_2
    refine lv_iload_n hx hb dX9_date_17 rfl (lv_at hl 2 rfl) ?_
    refine lv_i2l hx hb dX9_date_18 rfl ?_
    refine lv_lconst (v := 0) hx hb dX9_date_19 (by decide) ?_
    refine lv_ldc2 (v := 3) hx hb hown (hts (.constantLong RX9 131 (3)) qw_448) dX9_date_20 ?_
    have hPc := (rgP1_e1bfc9f hP)
    have hKc := hK
    refine vp_callSi ((va_runS (As := [.long (a2.toInt64), .long 0, .long 3]) (rest := []) ⟨hx, hb, hml, hown, hts⟩ (k_X9_within l dC dI g ((a2.toInt64)) (0) (3) (a2.toInt) (0) (3) (w_li rfl) (by decide) (by decide)) (va_cwS 3 hts (gwS qw_444 qw_445 qw_386 qw_443) rfl rfl rfl (by decide +kernel) ⟨Nat.le_of_ble_eq_true rfl, Nat.le_of_ble_eq_true rfl⟩) ⟨fun a U g9 mk q => ⟨q.1, q.2.1, va_K.moved (u := U) (U := U.calling g9 mk a) (Vm.Alike.refl U.vm) q.2.2.1, Ev.bl q.2.2.2⟩, fun U hU hW => ⟨rfl, atB hU hPc, va_K.moved hW.alike hKc, hE.go hS (fun _ h => h.elim) hU hW⟩⟩ rfl rfl hl.1 rfl (lv_room (Nat.le_of_ble_eq_true rfl)) dX9_date_23 ⟨Nat.le_of_ble_eq_true rfl, Nat.le_of_ble_eq_true rfl⟩)).run (fun r3 h_r3 => ?_)
    have h_r3 : (r3 = 0 ∨ r3 = 1) ∧ ((r3.toInt = 1 ∧ 0 ≤ a2.toInt ∧ a2.toInt ≤ 3) ∨ (r3.toInt = 0 ∧ ¬ (0 ≤ a2.toInt ∧ a2.toInt ≤ 3))) := h_r3
    have b_r3 := z01 h_r3.1
    refine lv_if_ne (tgt := 31) hx hb dX9_date_26 (by decide) (fun c26_4 => ?_) (fun c26_4 => ?_)
    · have c26_4 : ¬ (r3.toInt = 0) := mt (cv_eq rfl (by decide)).mpr c26_4
      refine lv_aload_n hx hb dX9_date_31 rfl (lv_at hl 0 rfl) ?_
      refine lv_iload_n hx hb dX9_date_32 rfl (lv_at hl 1 rfl) ?_
      have qc0 : (0 : Int32).toInt = 0 := by decide
      have hPc := hP
      have hKc := hK
      have hDc := hD
      have hFc := freeW hDc hS hA
      refine va_callv (va_runV (As := [.int a1]) (rest := []) ⟨hx, hb, hml, hown, hts⟩ (k_X9_tellsApart l dC dI g H.size (a0) (a1) (0) (a0_1) (a0_2) (a0_3) (a0_4) (a0_5) (a0_6) (a0_7) (a0_8) (a0_9) (a0_10) (a0_11) (a0_12) (a0_13) (a0_14) (a0_15) (a0_16) (a0_17) (a0_18) (a0_19) (a0_20) (a0_21) (a0_22) (a0_23) (a0_24) (a0_25) (a0_26) (a0_27) (a0_28) (a0_29) (a0_30) (a0_31) (a0_32) (a0_33) (a0_34) (a0_35) (a0_36) (a0_37) (a0_38) (a0_39) (a0_40) (a0_41) (a0_42) (a0_43) (by omega) (by omega) (by omega) (by omega) (by omega) (by omega) (by omega)) (cwV 1 hts (gwV qw_400 qw_401 qw_402 qw_386 qw_399) rfl rfl rfl (by decide +kernel) ⟨Nat.le_of_ble_eq_true rfl, Nat.le_of_ble_eq_true rfl⟩) ⟨fun a U g9 mk q => ⟨q.1, q.2.1, q.2.2.1, va_K.moved (u := U) (U := U.calling g9 mk a) (Vm.Alike.refl U.vm) q.2.2.2.1, q.2.2.2.2.1, Ev.bl q.2.2.2.2.2⟩, va_recv hK hP (ci := 8) (q0 := 0) rfl rgL1_f9e15c6, fun U hU hW => ⟨rfl, by rw [hU], atB hU hPc, va_K.moved hW.alike hKc, hDc.weaken (fun _ _ _ _ => trivial), hE.go hS hFc hU hW⟩⟩ rfl rfl hl.1 rfl (lv_room (Nat.le_of_ble_eq_true rfl)) dX9_date_33 ⟨Nat.le_of_ble_eq_true rfl, Nat.le_of_ble_eq_true rfl⟩) hS (fun q _ h => hFc q h) hFc (fun u5 t H1 locs ht hvm h_u5 hB hz1 hk1 hS => ?_)
      obtain ⟨za0_1_7, za0_2_8, za0_3_9, hP1, hK1, hD1⟩ := hB
      have hK1 := va_K.moved hvm.symm hK1
      have hJ9 := rgJ1_5dd387d hP hD hk1 hFc (atH ht hP1) hD1
      clear hP hD hPc hKc hDc hFc hP1 hD1 hk1 hz1
      obtain ⟨hP, hD⟩ := hJ9
      clear hK1
      generalize H1 = H at hP hS ⊢
      refine W.widen (k := 0) (n := 0) (Nat.le_of_ble_eq_true rfl) (Nat.le_of_ble_eq_true rfl) ?_
      refine lv_iload_n hx hb dX9_date_36 rfl (lv_at hl 2 rfl) ?_
      refine lv_if_ne (tgt := 47) hx hb dX9_date_37 (by decide) (fun c37_10 => ?_) (fun c37_10 => ?_)
      · have c37_10 : ¬ (a2.toInt = 0) := mt (cv_eq rfl (by decide)).mpr c37_10
        refine lv_iload_n hx hb dX9_date_47 rfl (lv_at hl 2 rfl) ?_
        refine lv_iconst (v := 1) hx hb dX9_date_48 (by decide) ?_
        refine lv_icmp_ne (tgt := 59) hx hb dX9_date_49 (by decide) (fun c49_11 => ?_) (fun c49_11 => ?_)
        · have c49_11 : ¬ (a2.toInt = 1) := mt (cv_eq rfl (by decide)).mpr c49_11
          refine lv_iload_n hx hb dX9_date_59 rfl (lv_at hl 2 rfl) ?_
          refine lv_iconst (v := 2) hx hb dX9_date_60 (by decide) ?_
          refine lv_icmp_ne (tgt := 71) hx hb dX9_date_61 (by decide) (fun c61_12 => ?_) (fun c61_12 => ?_)
          · have c61_12 : ¬ (a2.toInt = 2) := mt (cv_eq rfl (by decide)).mpr c61_12
            refine lv_iload_n hx hb dX9_date_71 rfl (lv_at hl 1 rfl) ?_
            refine lv_iconst (v := 4) hx hb dX9_date_72 (by decide) ?_
            refine lv_iadd hx hb dX9_date_73 ?_
            refine lv_topi (fun x13 e_x13 => ?_)
            refine lv_bipush (v := 7) hx hb dX9_date_74 (by decide) ?_
            refine lv_irem hx hb dX9_date_76 (by decide) ?_
            refine lv_topi (fun x14 e_x14 => ?_)
            have qc0 : (0 : Int32).toInt = 0 := by decide
            refine W.widen (k := 0) (n := 0) (Nat.le_of_ble_eq_true rfl) (Nat.le_of_ble_eq_true rfl) ?_
            have hP9 := hP
            have hD9 := hD
            have hK9 := hK
            exact W.iret (v := x14) hx hb hr (fun t ht hW => ⟨⟨x14, x14, rfl, rfl, 0, za0_1_7, za0_2_8, za0_3_9, atB ht hP9, va_K.moved hW.alike hK9, hD9⟩, hS.F ht⟩) hS.2.2 dX9_date_77
          · have c61_12 : a2.toInt = 2 := (cv_eq rfl (by decide)).mp c61_12
            refine lv_aload_n hx hb dX9_date_64 rfl (lv_at hl 0 rfl) ?_
            refine va_get (D := (dC, dI)) (ci := 8) (v := .int za0_3_9) (C := RX9) (T := TX9) (N := 44) hx hb hts inlX9 hown hK hP 0 rgL1_f9e15c6 rfl 3 (by decide) (hts (.fieldLink RX9 107 "ClosedUntilModel" "dayIn" "I") qw_397) (fun _ h9 => h9) rfl dX9_date_65 ?_
            refine lv_goto (tgt := 77) hx hb dX9_date_68 (by decide) ?_
            have qc0 : (0 : Int32).toInt = 0 := by decide
            refine W.widen (k := 0) (n := 0) (Nat.le_of_ble_eq_true rfl) (Nat.le_of_ble_eq_true rfl) ?_
            have hP9 := hP
            have hD9 := hD
            have hK9 := hK
            exact W.iret (v := za0_3_9) hx hb hr (fun t ht hW => ⟨⟨za0_3_9, za0_3_9, rfl, rfl, 0, za0_1_7, za0_2_8, za0_3_9, atB ht hP9, va_K.moved hW.alike hK9, hD9⟩, hS.F ht⟩) hS.2.2 dX9_date_77
        · have c49_11 : a2.toInt = 1 := (cv_eq rfl (by decide)).mp c49_11
          refine lv_aload_n hx hb dX9_date_52 rfl (lv_at hl 0 rfl) ?_
          refine va_get (D := (dC, dI)) (ci := 8) (v := .int za0_2_8) (C := RX9) (T := TX9) (N := 44) hx hb hts inlX9 hown hK hP 0 rgL1_f9e15c6 rfl 2 (by decide) (hts (.fieldLink RX9 104 "ClosedUntilModel" "month" "I") qw_396) (fun _ h9 => h9) rfl dX9_date_53 ?_
          refine lv_goto (tgt := 77) hx hb dX9_date_56 (by decide) ?_
          have qc0 : (0 : Int32).toInt = 0 := by decide
          refine W.widen (k := 0) (n := 0) (Nat.le_of_ble_eq_true rfl) (Nat.le_of_ble_eq_true rfl) ?_
          have hP9 := hP
          have hD9 := hD
          have hK9 := hK
          exact W.iret (v := za0_2_8) hx hb hr (fun t ht hW => ⟨⟨za0_2_8, za0_2_8, rfl, rfl, 0, za0_1_7, za0_2_8, za0_3_9, atB ht hP9, va_K.moved hW.alike hK9, hD9⟩, hS.F ht⟩) hS.2.2 dX9_date_77
      · have c37_10 : a2.toInt = 0 := (cv_eq rfl (by decide)).mp c37_10
        refine lv_aload_n hx hb dX9_date_40 rfl (lv_at hl 0 rfl) ?_
        refine va_get (D := (dC, dI)) (ci := 8) (v := .int za0_1_7) (C := RX9) (T := TX9) (N := 44) hx hb hts inlX9 hown hK hP 0 rgL1_f9e15c6 rfl 1 (by decide) (hts (.fieldLink RX9 101 "ClosedUntilModel" "year" "I") qw_395) (fun _ h9 => h9) rfl dX9_date_41 ?_
        refine lv_goto (tgt := 77) hx hb dX9_date_44 (by decide) ?_
        have qc0 : (0 : Int32).toInt = 0 := by decide
        refine W.widen (k := 0) (n := 0) (Nat.le_of_ble_eq_true rfl) (Nat.le_of_ble_eq_true rfl) ?_
        have hP9 := hP
        have hD9 := hD
        have hK9 := hK
        exact W.iret (v := za0_1_7) hx hb hr (fun t ht hW => ⟨⟨za0_1_7, za0_1_7, rfl, rfl, 0, za0_1_7, za0_2_8, za0_3_9, atB ht hP9, va_K.moved hW.alike hK9, hD9⟩, hS.F ht⟩) hS.2.2 dX9_date_77
    · have c26_4 : r3.toInt = 0 := (cv_eq rfl (by decide)).mp c26_4
      refine lv_iconst (v := (-1)) hx hb dX9_date_29 (by decide) ?_
      have qcm1 : ((-1) : Int32).toInt = (-1) := by decide
      have qc0 : (0 : Int32).toInt = 0 := by decide
      refine W.widen (k := 0) (n := 0) (Nat.le_of_ble_eq_true rfl) (Nat.le_of_ble_eq_true rfl) ?_
      have hP9 := hP
      have hD9 := hD
      have hK9 := hK
      exact W.iret (v := (-1)) hx hb hr (fun t ht hW => ⟨⟨(-1), (-1), rfl, rfl, 0, a0_1, a0_2, a0_3, atB ht hP9, va_K.moved hW.alike hK9, hD9⟩, hS.F ht⟩) hS.2.2 dX9_date_30
set_option maxHeartbeats 4000000 in
set_option maxRecDepth 100000 in
theorem k_X9_plus (l : Launch) (dC : Nat → ClassId) (dI : Nat → Nat → Nat) (g : Gv) (sz : Nat) (a0 : Nat) (a1 : Int32) (a2 : Int32) (a0_0 : Int32) (a0_1 : Int32) (a0_2 : Int32) (a0_3 : Int32) (a0_4 : Nat) (a0_5 : Int32) (a0_6 : Int32) (a0_7 : Int32) (a0_8 : Int32) (a0_9 : Int32) (a0_10 : Int32) (a0_11 : Int64) (a0_12 : Int32) (a0_13 : Int32) (a0_14 : Int32) (a0_15 : Int32) (a0_16 : Int32) (a0_17 : Int32) (a0_18 : Nat) (a0_19 : Nat) (a0_20 : Nat) (a0_21 : Nat) (a0_22 : Nat) (a0_23 : Nat) (a0_24 : Nat) (a0_25 : Nat) (a0_26 : Nat) (a0_27 : Nat) (a0_28 : Nat) (a0_29 : Nat) (a0_30 : Nat) (a0_31 : Nat) (a0_32 : Nat) (a0_33 : Nat) (a0_34 : Nat) (a0_35 : Nat) (a0_36 : Int64) (a0_37 : Int32) (a0_38 : Nat) (a0_39 : Nat) (a0_40 : Int32) (a0_41 : Nat) (a0_42 : Nat) (a0_43 : Nat) (h_a0_5 : 0 ≤ a0_5.toInt ∧ a0_5.toInt ≤ 1000) (h_a0_6 : 0 ≤ a0_6.toInt ∧ a0_6.toInt ≤ 1000) (h_a0_7 : 0 ≤ a0_7.toInt ∧ a0_7.toInt ≤ 1000) (h_a0_8 : 0 ≤ a0_8.toInt ∧ a0_8.toInt ≤ 1000) (h_a0_17 : 0 ≤ a0_17.toInt ∧ a0_17.toInt ≤ 1) (h_a0_37 : (-1) ≤ a0_37.toInt ∧ a0_37.toInt ≤ 23) (h_a0_40 : 0 ≤ a0_40.toInt ∧ a0_40.toInt ≤ 12) : Met l yX9_plus (.code yX9_plus cX9_plus 3 (some .int) :: TBL) ({ frames := 4, cells := 0, slots := 0, locals := 90 }) (va_Pc [.ref a0, .int a1, .int a2] (fun U => U.heap.size = sz ∧ va_P (dC, dI) vwCl [(a0, .inr (8, [.int a0_0, .int a0_1, .int a0_2, .int a0_3, .ref a0_4, .int a0_5, .int a0_6, .int a0_7, .int a0_8, .int a0_9, .int a0_10, .long a0_11, .int a0_12, .int a0_13, .int a0_14, .int a0_15, .int a0_16, .int a0_17, .ref a0_18, .ref a0_19, .ref a0_20, .ref a0_21, .ref a0_22, .ref a0_23, .ref a0_24, .ref a0_25, .ref a0_26, .ref a0_27, .ref a0_28, .ref a0_29, .ref a0_30, .ref a0_31, .ref a0_32, .ref a0_33, .ref a0_34, .ref a0_35, .long a0_36, .int a0_37, .ref a0_38, .ref a0_39, .int a0_40, .ref a0_41, .ref a0_42, .ref a0_43]))] U.heap ∧ va_K (dC, dI) vwCl [] U ∧ va_D (fun _ => True) [(a0, .inr (8, [.int a0_0, .int a0_1, .int a0_2, .int a0_3, .ref a0_4, .int a0_5, .int a0_6, .int a0_7, .int a0_8, .int a0_9, .int a0_10, .long a0_11, .int a0_12, .int a0_13, .int a0_14, .int a0_15, .int a0_16, .int a0_17, .ref a0_18, .ref a0_19, .ref a0_20, .ref a0_21, .ref a0_22, .ref a0_23, .ref a0_24, .ref a0_25, .ref a0_26, .ref a0_27, .ref a0_28, .ref a0_29, .ref a0_30, .ref a0_31, .ref a0_32, .ref a0_33, .ref a0_34, .ref a0_35, .long a0_36, .int a0_37, .ref a0_38, .ref a0_39, .int a0_40, .ref a0_41, .ref a0_42, .ref a0_43]))] ∧ Ev g (va_A [(a0, .inr (8, [.int a0_0, .int a0_1, .int a0_2, .int a0_3, .ref a0_4, .int a0_5, .int a0_6, .int a0_7, .int a0_8, .int a0_9, .int a0_10, .long a0_11, .int a0_12, .int a0_13, .int a0_14, .int a0_15, .int a0_16, .int a0_17, .ref a0_18, .ref a0_19, .ref a0_20, .ref a0_21, .ref a0_22, .ref a0_23, .ref a0_24, .ref a0_25, .ref a0_26, .ref a0_27, .ref a0_28, .ref a0_29, .ref a0_30, .ref a0_31, .ref a0_32, .ref a0_33, .ref a0_34, .ref a0_35, .long a0_36, .int a0_37, .ref a0_38, .ref a0_39, .int a0_40, .ref a0_41, .ref a0_42, .ref a0_43]))] sz) U)) (va_Qi (fun (r : Int32) (u : Int32) => u = r) (fun (u : Int32) (t : State) => ∃ (za0_0 : Int32) (za0_1 : Int32) (za0_2 : Int32) (za0_3 : Int32), va_P (dC, dI) vwCl [(a0, .inr (8, [.int za0_0, .int za0_1, .int za0_2, .int za0_3, .ref a0_4, .int a0_5, .int a0_6, .int a0_7, .int a0_8, .int a0_9, .int a0_10, .long a0_11, .int a0_12, .int a0_13, .int a0_14, .int a0_15, .int a0_16, .int a0_17, .ref a0_18, .ref a0_19, .ref a0_20, .ref a0_21, .ref a0_22, .ref a0_23, .ref a0_24, .ref a0_25, .ref a0_26, .ref a0_27, .ref a0_28, .ref a0_29, .ref a0_30, .ref a0_31, .ref a0_32, .ref a0_33, .ref a0_34, .ref a0_35, .long a0_36, .int a0_37, .ref a0_38, .ref a0_39, .int a0_40, .ref a0_41, .ref a0_42, .ref a0_43]))] t.heap ∧ va_K (dC, dI) vwCl [] t ∧ va_D (va_A [(a0, .inr (8, [.int a0_0, .int a0_1, .int a0_2, .int a0_3, .ref a0_4, .int a0_5, .int a0_6, .int a0_7, .int a0_8, .int a0_9, .int a0_10, .long a0_11, .int a0_12, .int a0_13, .int a0_14, .int a0_15, .int a0_16, .int a0_17, .ref a0_18, .ref a0_19, .ref a0_20, .ref a0_21, .ref a0_22, .ref a0_23, .ref a0_24, .ref a0_25, .ref a0_26, .ref a0_27, .ref a0_28, .ref a0_29, .ref a0_30, .ref a0_31, .ref a0_32, .ref a0_33, .ref a0_34, .ref a0_35, .long a0_36, .int a0_37, .ref a0_38, .ref a0_39, .int a0_40, .ref a0_41, .ref a0_42, .ref a0_43]))] sz) [(a0, .inr (8, [.int za0_0, .int za0_1, .int za0_2, .int za0_3, .ref a0_4, .int a0_5, .int a0_6, .int a0_7, .int a0_8, .int a0_9, .int a0_10, .long a0_11, .int a0_12, .int a0_13, .int a0_14, .int a0_15, .int a0_16, .int a0_17, .ref a0_18, .ref a0_19, .ref a0_20, .ref a0_21, .ref a0_22, .ref a0_23, .ref a0_24, .ref a0_25, .ref a0_26, .ref a0_27, .ref a0_28, .ref a0_29, .ref a0_30, .ref a0_31, .ref a0_32, .ref a0_33, .ref a0_34, .ref a0_35, .long a0_36, .int a0_37, .ref a0_38, .ref a0_39, .int a0_40, .ref a0_41, .ref a0_42, .ref a0_43]))]) (va_A [(a0, .inr (8, [.int a0_0, .int a0_1, .int a0_2, .int a0_3, .ref a0_4, .int a0_5, .int a0_6, .int a0_7, .int a0_8, .int a0_9, .int a0_10, .long a0_11, .int a0_12, .int a0_13, .int a0_14, .int a0_15, .int a0_16, .int a0_17, .ref a0_18, .ref a0_19, .ref a0_20, .ref a0_21, .ref a0_22, .ref a0_23, .ref a0_24, .ref a0_25, .ref a0_26, .ref a0_27, .ref a0_28, .ref a0_29, .ref a0_30, .ref a0_31, .ref a0_32, .ref a0_33, .ref a0_34, .ref a0_35, .long a0_36, .int a0_37, .ref a0_38, .ref a0_39, .int a0_40, .ref a0_41, .ref a0_42, .ref a0_43]))] sz)) 0 0 (va_A [(a0, .inr (8, [.int a0_0, .int a0_1, .int a0_2, .int a0_3, .ref a0_4, .int a0_5, .int a0_6, .int a0_7, .int a0_8, .int a0_9, .int a0_10, .long a0_11, .int a0_12, .int a0_13, .int a0_14, .int a0_15, .int a0_16, .int a0_17, .ref a0_18, .ref a0_19, .ref a0_20, .ref a0_21, .ref a0_22, .ref a0_23, .ref a0_24, .ref a0_25, .ref a0_26, .ref a0_27, .ref a0_28, .ref a0_29, .ref a0_30, .ref a0_31, .ref a0_32, .ref a0_33, .ref a0_34, .ref a0_35, .long a0_36, .int a0_37, .ref a0_38, .ref a0_39, .int a0_40, .ref a0_41, .ref a0_42, .ref a0_43]))] sz) := by
  refine Met.ofW (cc := cX9_plus) (maxL := 3) (ret := (some .int)) (by decide) rfl ?_
  intro p e s m args below meth c s₁ B hml hv
  obtain ⟨rfl, hsz, hP, hK, hD0, hE⟩ := hv
  have hx := B.exec
  have hb := B.bytes
  have hr := B.returns
  have hts0 := atoms_spec (ws := (.code yX9_plus cX9_plus 3 (some .int) :: TBL)) B.pre
  have hts := fun (w : Cond) (h : w ∈ TBL) => hts0 w (List.mem_cons_of_mem _ h)
  have hown : s.vm.findClass RX9 = some m.cls := findClass_of_methodNamed B.named
  have hlocks := B.notSynchronized
  have hN := hE.1
  subst hsz
  have hD := hD0.self (sz := s.heap.size)
  generalize hAe : va_A [(a0, .inr (8, [.int a0_0, .int a0_1, .int a0_2, .int a0_3, .ref a0_4, .int a0_5, .int a0_6, .int a0_7, .int a0_8, .int a0_9, .int a0_10, .long a0_11, .int a0_12, .int a0_13, .int a0_14, .int a0_15, .int a0_16, .int a0_17, .ref a0_18, .ref a0_19, .ref a0_20, .ref a0_21, .ref a0_22, .ref a0_23, .ref a0_24, .ref a0_25, .ref a0_26, .ref a0_27, .ref a0_28, .ref a0_29, .ref a0_30, .ref a0_31, .ref a0_32, .ref a0_33, .ref a0_34, .ref a0_35, .long a0_36, .int a0_37, .ref a0_38, .ref a0_39, .int a0_40, .ref a0_41, .ref a0_42, .ref a0_43]))] s.heap.size = A at hD hE ⊢
  have hA : ∀ q : Nat, s.heap.size ≤ q → A q := fun q h => by rw [← hAe]; exact Or.inr h
  have hS : va_S A s.heap s.heap [] := va_S.rf
  replace hP : va_P (dC, dI) vwCl [(a0, .inr (8, [.int a0_0, .int a0_1, .int a0_2, .int a0_3, .ref a0_4, .int a0_5, .int a0_6, .int a0_7, .int a0_8, .int a0_9, .int a0_10, .long a0_11, .int a0_12, .int a0_13, .int a0_14, .int a0_15, .int a0_16, .int a0_17, .ref a0_18, .ref a0_19, .ref a0_20, .ref a0_21, .ref a0_22, .ref a0_23, .ref a0_24, .ref a0_25, .ref a0_26, .ref a0_27, .ref a0_28, .ref a0_29, .ref a0_30, .ref a0_31, .ref a0_32, .ref a0_33, .ref a0_34, .ref a0_35, .long a0_36, .int a0_37, .ref a0_38, .ref a0_39, .int a0_40, .ref a0_41, .ref a0_42, .ref a0_43]))] s.heap := hP
  have hl := lv_entry ([.ref a0, .int a1, .int a2]) (n := 3) (Nat.le_of_ble_eq_true rfl)
  rw [lg_entry_eq]
  generalize (lg_sl ([.ref a0, .int a1, .int a2]) ++ List.replicate (3 - (lg_sl ([.ref a0, .int a1, .int a2])).length) Slot.unset).toArray = ls at hl ⊢
  have hl : lv_has ls 3 [(0, .ref a0), (1, .int a1), (2, .int a2)] := hl
  have b_a1 := i32b a1
  have b_a2 := i32b a2
  have b_a0_0 := i32b a0_0
  have b_a0_1 := i32b a0_1
  have b_a0_2 := i32b a0_2
  have b_a0_3 := i32b a0_3
  have b_a0_9 := i32b a0_9
  have b_a0_10 := i32b a0_10
  have b_a0_12 := i32b a0_12
  have b_a0_13 := i32b a0_13
  have b_a0_14 := i32b a0_14
  have b_a0_15 := i32b a0_15
  have b_a0_16 := i32b a0_16
  refine lv_aload_n hx hb dX9_plus_0 rfl (lv_at hl 0 rfl) ?_
  refine lv_iconst (v := 0) hx hb dX9_plus_1 (by decide) ?_
  refine va_put (D := (dC, dI)) (ci := 8) (v := .int 0) (ty := .int) (C := RX9) (T := TX9) (N := 44) hx hb hts inlX9 tyX9 tyX9_ok nmX9 hown hK hP hD hS 0 rgL1_f9e15c6 rfl 0 (by decide) (hts (.fieldLink RX9 85 "ClosedUntilModel" "thrown" "I") qw_408) (fun _ h9 => h9) rfl (by decide +kernel) rfl rfl (Nat.le_of_ble_eq_true rfl) dX9_plus_2 (fun H locs hP9 hD9 hS9 => ?_)
  clear hP hD hS
  obtain ⟨hP, hD⟩ := rgS1_4a8b427 (e := (a0, .inr (8, [.int 0, .int a0_1, .int a0_2, .int a0_3, .ref a0_4, .int a0_5, .int a0_6, .int a0_7, .int a0_8, .int a0_9, .int a0_10, .long a0_11, .int a0_12, .int a0_13, .int a0_14, .int a0_15, .int a0_16, .int a0_17, .ref a0_18, .ref a0_19, .ref a0_20, .ref a0_21, .ref a0_22, .ref a0_23, .ref a0_24, .ref a0_25, .ref a0_26, .ref a0_27, .ref a0_28, .ref a0_29, .ref a0_30, .ref a0_31, .ref a0_32, .ref a0_33, .ref a0_34, .ref a0_35, .long a0_36, .int a0_37, .ref a0_38, .ref a0_39, .int a0_40, .ref a0_41, .ref a0_42, .ref a0_43]))) hP9 hD9 rfl
  have hS := hS9; clear hP9 hD9 hS9
  refine lv_iload_n hx hb dX9_plus_5 rfl (lv_at hl 1 rfl) ?_
  refine lv_i2l hx hb dX9_plus_6 rfl ?_
  refine lv_lconst (v := 0) hx hb dX9_plus_7 (by decide) ?_
  refine lv_ldc2 (v := 219145) hx hb hown (hts (.constantLong RX9 133 (219145)) qw_449) dX9_plus_8 ?_
  have hPc := (rgP1_e1bfc9f hP)
  have hKc := hK
  refine vp_callSi ((va_runS (As := [.long (a1.toInt64), .long 0, .long 219145]) (rest := []) ⟨hx, hb, hml, hown, hts⟩ (k_X9_within l dC dI g ((a1.toInt64)) (0) (219145) (a1.toInt) (0) (219145) (w_li rfl) (by decide) (by decide)) (va_cwS 3 hts (gwS qw_444 qw_445 qw_386 qw_443) rfl rfl rfl (by decide +kernel) ⟨Nat.le_of_ble_eq_true rfl, Nat.le_of_ble_eq_true rfl⟩) ⟨fun a U g9 mk q => ⟨q.1, q.2.1, va_K.moved (u := U) (U := U.calling g9 mk a) (Vm.Alike.refl U.vm) q.2.2.1, Ev.bl q.2.2.2⟩, fun U hU hW => ⟨rfl, atB hU hPc, va_K.moved hW.alike hKc, hE.go hS (fun _ h => h.elim) hU hW⟩⟩ rfl rfl hl.1 rfl (lv_room (Nat.le_of_ble_eq_true rfl)) dX9_plus_11 ⟨Nat.le_of_ble_eq_true rfl, Nat.le_of_ble_eq_true rfl⟩)).run (fun r1 h_r1 => ?_)
  have h_r1 : (r1 = 0 ∨ r1 = 1) ∧ ((r1.toInt = 1 ∧ 0 ≤ a1.toInt ∧ a1.toInt ≤ 219145) ∨ (r1.toInt = 0 ∧ ¬ (0 ≤ a1.toInt ∧ a1.toInt ≤ 219145))) := h_r1
  have b_r1 := z01 h_r1.1
  refine lv_if_eq (tgt := 40) hx hb dX9_plus_14 (by decide) (fun c14_2 => ?_) (fun c14_2 => ?_)
  · have c14_2 : r1.toInt = 0 := (cv_eq rfl (by decide)).mp c14_2
    refine lv_iconst (v := (-1)) hx hb dX9_plus_40 (by decide) ?_
    have qcm1 : ((-1) : Int32).toInt = (-1) := by decide
    have qc0 : (0 : Int32).toInt = 0 := by decide
    refine W.widen (k := 0) (n := 0) (Nat.le_of_ble_eq_true rfl) (Nat.le_of_ble_eq_true rfl) ?_
    have hP9 := hP
    have hD9 := hD
    have hK9 := hK
    exact W.iret (v := (-1)) hx hb hr (fun t ht hW => ⟨⟨(-1), (-1), rfl, rfl, 0, a0_1, a0_2, a0_3, atB ht hP9, va_K.moved hW.alike hK9, hD9⟩, hS.F ht⟩) hS.2.2 dX9_plus_41
  · have c14_2 : ¬ (r1.toInt = 0) := mt (cv_eq rfl (by decide)).mpr c14_2
    refine lv_iload_n hx hb dX9_plus_17 rfl (lv_at hl 2 rfl) ?_
    refine lv_i2l hx hb dX9_plus_18 rfl ?_
    refine lv_ldc2 (v := (-600)) hx hb hown (hts (.constantLong RX9 135 (-600)) qw_450) dX9_plus_19 ?_
    refine lv_ldc2 (v := 600) hx hb hown (hts (.constantLong RX9 137 (600)) qw_451) dX9_plus_22 ?_
    have hPc := (rgP1_e1bfc9f hP)
    have hKc := hK
    refine vp_callSi ((va_runS (As := [.long (a2.toInt64), .long (-600), .long 600]) (rest := []) ⟨hx, hb, hml, hown, hts⟩ (k_X9_within l dC dI g ((a2.toInt64)) ((-600)) (600) (a2.toInt) ((-600)) (600) (w_li rfl) (by decide) (by decide)) (va_cwS 3 hts (gwS qw_444 qw_445 qw_386 qw_443) rfl rfl rfl (by decide +kernel) ⟨Nat.le_of_ble_eq_true rfl, Nat.le_of_ble_eq_true rfl⟩) ⟨fun a U g9 mk q => ⟨q.1, q.2.1, va_K.moved (u := U) (U := U.calling g9 mk a) (Vm.Alike.refl U.vm) q.2.2.1, Ev.bl q.2.2.2⟩, fun U hU hW => ⟨rfl, atB hU hPc, va_K.moved hW.alike hKc, hE.go hS (fun _ h => h.elim) hU hW⟩⟩ rfl rfl hl.1 rfl (lv_room (Nat.le_of_ble_eq_true rfl)) dX9_plus_25 ⟨Nat.le_of_ble_eq_true rfl, Nat.le_of_ble_eq_true rfl⟩)).run (fun r3 h_r3 => ?_)
    have h_r3 : (r3 = 0 ∨ r3 = 1) ∧ ((r3.toInt = 1 ∧ (-600) ≤ a2.toInt ∧ a2.toInt ≤ 600) ∨ (r3.toInt = 0 ∧ ¬ ((-600) ≤ a2.toInt ∧ a2.toInt ≤ 600))) := h_r3
    have b_r3 := z01 h_r3.1
    refine lv_if_eq (tgt := 40) hx hb dX9_plus_28 (by decide) (fun c28_4 => ?_) (fun c28_4 => ?_)
    · have c28_4 : r3.toInt = 0 := (cv_eq rfl (by decide)).mp c28_4
      refine lv_iconst (v := (-1)) hx hb dX9_plus_40 (by decide) ?_
      have qcm1 : ((-1) : Int32).toInt = (-1) := by decide
      have qc0 : (0 : Int32).toInt = 0 := by decide
      refine W.widen (k := 0) (n := 0) (Nat.le_of_ble_eq_true rfl) (Nat.le_of_ble_eq_true rfl) ?_
      have hP9 := hP
      have hD9 := hD
      have hK9 := hK
      exact W.iret (v := (-1)) hx hb hr (fun t ht hW => ⟨⟨(-1), (-1), rfl, rfl, 0, a0_1, a0_2, a0_3, atB ht hP9, va_K.moved hW.alike hK9, hD9⟩, hS.F ht⟩) hS.2.2 dX9_plus_41
    · have c28_4 : ¬ (r3.toInt = 0) := mt (cv_eq rfl (by decide)).mpr c28_4
      refine lv_aload_n hx hb dX9_plus_31 rfl (lv_at hl 0 rfl) ?_
      refine lv_iload_n hx hb dX9_plus_32 rfl (lv_at hl 1 rfl) ?_
      refine lv_iload_n hx hb dX9_plus_33 rfl (lv_at hl 2 rfl) ?_
      have qc0 : (0 : Int32).toInt = 0 := by decide
      have hPc := hP
      have hKc := hK
      have hDc := hD
      have hFc := freeW hDc hS hA
      refine va_calli (va_runV (As := [.int a1, .int a2]) (rest := []) ⟨hx, hb, hml, hown, hts⟩ (k_X9_plusYears l dC dI g H.size (a0) (a1) (a2) (0) (a0_1) (a0_2) (a0_3) (a0_4) (a0_5) (a0_6) (a0_7) (a0_8) (a0_9) (a0_10) (a0_11) (a0_12) (a0_13) (a0_14) (a0_15) (a0_16) (a0_17) (a0_18) (a0_19) (a0_20) (a0_21) (a0_22) (a0_23) (a0_24) (a0_25) (a0_26) (a0_27) (a0_28) (a0_29) (a0_30) (a0_31) (a0_32) (a0_33) (a0_34) (a0_35) (a0_36) (a0_37) (a0_38) (a0_39) (a0_40) (a0_41) (a0_42) (a0_43) (by omega) (by omega) (by omega) (by omega) (by omega) (by omega) (by omega)) (cwV 2 hts (gwV qw_453 qw_454 qw_455 qw_386 qw_452) rfl rfl rfl (by decide +kernel) ⟨Nat.le_of_ble_eq_true rfl, Nat.le_of_ble_eq_true rfl⟩) ⟨fun a U g9 mk q => ⟨q.1, q.2.1, q.2.2.1, va_K.moved (u := U) (U := U.calling g9 mk a) (Vm.Alike.refl U.vm) q.2.2.2.1, q.2.2.2.2.1, Ev.bl q.2.2.2.2.2⟩, va_recv hK hP (ci := 8) (q0 := 0) rfl rgL1_f9e15c6, fun U hU hW => ⟨rfl, by rw [hU], atB hU hPc, va_K.moved hW.alike hKc, hDc.weaken (fun _ _ _ _ => trivial), hE.go hS hFc hU hW⟩⟩ rfl rfl hl.1 rfl (lv_room (Nat.le_of_ble_eq_true rfl)) dX9_plus_34 ⟨Nat.le_of_ble_eq_true rfl, Nat.le_of_ble_eq_true rfl⟩) hS (fun q _ h => hFc q h) hFc (fun r6 u5 t H1 locs ht hvm h_u5 hB hz1 hk1 hS => ?_)
      obtain ⟨za0_1_7, za0_2_8, za0_3_9, hP1, hK1, hD1⟩ := hB
      have hK1 := va_K.moved hvm.symm hK1
      have hJ9 := rgJ1_5dd387d hP hD hk1 hFc (atH ht hP1) hD1
      clear hP hD hPc hKc hDc hFc hP1 hD1 hk1 hz1
      obtain ⟨hP, hD⟩ := hJ9
      clear hK1
      generalize H1 = H at hP hS ⊢
      refine W.widen (k := 0) (n := 0) (Nat.le_of_ble_eq_true rfl) (Nat.le_of_ble_eq_true rfl) ?_
      have h_r6 := congrArg Int32.toInt h_u5
      have b_r6 := i32b r6
      refine lv_goto (tgt := 41) hx hb dX9_plus_37 (by decide) ?_
      have qc0 : (0 : Int32).toInt = 0 := by decide
      refine W.widen (k := 0) (n := 0) (Nat.le_of_ble_eq_true rfl) (Nat.le_of_ble_eq_true rfl) ?_
      have hP9 := hP
      have hD9 := hD
      have hK9 := hK
      exact W.iret (v := r6) hx hb hr (fun t ht hW => ⟨⟨r6, r6, rfl, rfl, 0, za0_1_7, za0_2_8, za0_3_9, atB ht hP9, va_K.moved hW.alike hK9, hD9⟩, hS.F ht⟩) hS.2.2 dX9_plus_41
set_option maxHeartbeats 4000000 in
set_option maxRecDepth 100000 in
theorem k_X9_steps (l : Launch) (dC : Nat → ClassId) (dI : Nat → Nat → Nat) (g : Gv) (sz : Nat) (a0 : Nat) (a0_0 : Int32) (a0_1 : Int32) (a0_2 : Int32) (a0_3 : Int32) (a0_4 : Nat) (a0_5 : Int32) (a0_6 : Int32) (a0_7 : Int32) (a0_8 : Int32) (a0_9 : Int32) (a0_10 : Int32) (a0_11 : Int64) (a0_12 : Int32) (a0_13 : Int32) (a0_14 : Int32) (a0_15 : Int32) (a0_16 : Int32) (a0_17 : Int32) (a0_18 : Nat) (a0_19 : Nat) (a0_20 : Nat) (a0_21 : Nat) (a0_22 : Nat) (a0_23 : Nat) (a0_24 : Nat) (a0_25 : Nat) (a0_26 : Nat) (a0_27 : Nat) (a0_28 : Nat) (a0_29 : Nat) (a0_30 : Nat) (a0_31 : Nat) (a0_32 : Nat) (a0_33 : Nat) (a0_34 : Nat) (a0_35 : Nat) (a0_36 : Int64) (a0_37 : Int32) (a0_38 : Nat) (a0_39 : Nat) (a0_40 : Int32) (a0_41 : Nat) (a0_42 : Nat) (a0_43 : Nat) (a0_4_c : ClassId) (a0_4_f : Nat → Int32) (h_a0_5 : 0 ≤ a0_5.toInt ∧ a0_5.toInt ≤ 1000) (h_a0_6 : 0 ≤ a0_6.toInt ∧ a0_6.toInt ≤ 1000) (h_a0_7 : 0 ≤ a0_7.toInt ∧ a0_7.toInt ≤ 1000) (h_a0_8 : 0 ≤ a0_8.toInt ∧ a0_8.toInt ≤ 1000) (h_a0_17 : 0 ≤ a0_17.toInt ∧ a0_17.toInt ≤ 1) (h_a0_37 : (-1) ≤ a0_37.toInt ∧ a0_37.toInt ≤ 23) (h_a0_40 : 0 ≤ a0_40.toInt ∧ a0_40.toInt ≤ 12) : Met l yX9_steps (.code yX9_steps cX9_steps 2 none :: TBL) ({ frames := 1, cells := 0, slots := 0, locals := 25 }) (va_Pc [.ref a0] (fun U => U.heap.size = sz ∧ va_P (dC, dI) vwCl [(a0, .inr (8, [.int a0_0, .int a0_1, .int a0_2, .int a0_3, .ref a0_4, .int a0_5, .int a0_6, .int a0_7, .int a0_8, .int a0_9, .int a0_10, .long a0_11, .int a0_12, .int a0_13, .int a0_14, .int a0_15, .int a0_16, .int a0_17, .ref a0_18, .ref a0_19, .ref a0_20, .ref a0_21, .ref a0_22, .ref a0_23, .ref a0_24, .ref a0_25, .ref a0_26, .ref a0_27, .ref a0_28, .ref a0_29, .ref a0_30, .ref a0_31, .ref a0_32, .ref a0_33, .ref a0_34, .ref a0_35, .long a0_36, .int a0_37, .ref a0_38, .ref a0_39, .int a0_40, .ref a0_41, .ref a0_42, .ref a0_43])), (a0_4, .inl (a0_4_c, 1000, .inl a0_4_f))] U.heap ∧ va_K (dC, dI) vwCl [(a0_4_c, .byte)] U ∧ va_D (fun _ => True) [(a0, .inr (8, [.int a0_0, .int a0_1, .int a0_2, .int a0_3, .ref a0_4, .int a0_5, .int a0_6, .int a0_7, .int a0_8, .int a0_9, .int a0_10, .long a0_11, .int a0_12, .int a0_13, .int a0_14, .int a0_15, .int a0_16, .int a0_17, .ref a0_18, .ref a0_19, .ref a0_20, .ref a0_21, .ref a0_22, .ref a0_23, .ref a0_24, .ref a0_25, .ref a0_26, .ref a0_27, .ref a0_28, .ref a0_29, .ref a0_30, .ref a0_31, .ref a0_32, .ref a0_33, .ref a0_34, .ref a0_35, .long a0_36, .int a0_37, .ref a0_38, .ref a0_39, .int a0_40, .ref a0_41, .ref a0_42, .ref a0_43])), (a0_4, .inl (a0_4_c, 1000, .inl a0_4_f))] ∧ Ev g (va_A [(a0, .inr (8, [.int a0_0, .int a0_1, .int a0_2, .int a0_3, .ref a0_4, .int a0_5, .int a0_6, .int a0_7, .int a0_8, .int a0_9, .int a0_10, .long a0_11, .int a0_12, .int a0_13, .int a0_14, .int a0_15, .int a0_16, .int a0_17, .ref a0_18, .ref a0_19, .ref a0_20, .ref a0_21, .ref a0_22, .ref a0_23, .ref a0_24, .ref a0_25, .ref a0_26, .ref a0_27, .ref a0_28, .ref a0_29, .ref a0_30, .ref a0_31, .ref a0_32, .ref a0_33, .ref a0_34, .ref a0_35, .long a0_36, .int a0_37, .ref a0_38, .ref a0_39, .int a0_40, .ref a0_41, .ref a0_42, .ref a0_43])), (a0_4, .inl (a0_4_c, 1000, .inl a0_4_f))] sz) U)) (va_Qv (fun (_ : Unit) => True) (fun (_ : Unit) (t : State) => ∃ (za0_7 : Int32) (za0_8 : Int32) (za0_9 : Int32) (za0_10 : Int32) (za0_11 : Int64), (0 ≤ za0_7.toInt ∧ za0_7.toInt ≤ 1000) ∧ (0 ≤ za0_8.toInt ∧ za0_8.toInt ≤ 1000) ∧ va_P (dC, dI) vwCl [(a0, .inr (8, [.int a0_0, .int a0_1, .int a0_2, .int a0_3, .ref a0_4, .int a0_5, .int a0_6, .int za0_7, .int za0_8, .int za0_9, .int za0_10, .long za0_11, .int a0_12, .int a0_13, .int a0_14, .int a0_15, .int a0_16, .int a0_17, .ref a0_18, .ref a0_19, .ref a0_20, .ref a0_21, .ref a0_22, .ref a0_23, .ref a0_24, .ref a0_25, .ref a0_26, .ref a0_27, .ref a0_28, .ref a0_29, .ref a0_30, .ref a0_31, .ref a0_32, .ref a0_33, .ref a0_34, .ref a0_35, .long a0_36, .int a0_37, .ref a0_38, .ref a0_39, .int a0_40, .ref a0_41, .ref a0_42, .ref a0_43])), (a0_4, .inl (a0_4_c, 1000, .inl a0_4_f))] t.heap ∧ va_K (dC, dI) vwCl [] t ∧ va_D (va_A [(a0, .inr (8, [.int a0_0, .int a0_1, .int a0_2, .int a0_3, .ref a0_4, .int a0_5, .int a0_6, .int a0_7, .int a0_8, .int a0_9, .int a0_10, .long a0_11, .int a0_12, .int a0_13, .int a0_14, .int a0_15, .int a0_16, .int a0_17, .ref a0_18, .ref a0_19, .ref a0_20, .ref a0_21, .ref a0_22, .ref a0_23, .ref a0_24, .ref a0_25, .ref a0_26, .ref a0_27, .ref a0_28, .ref a0_29, .ref a0_30, .ref a0_31, .ref a0_32, .ref a0_33, .ref a0_34, .ref a0_35, .long a0_36, .int a0_37, .ref a0_38, .ref a0_39, .int a0_40, .ref a0_41, .ref a0_42, .ref a0_43])), (a0_4, .inl (a0_4_c, 1000, .inl a0_4_f))] sz) [(a0, .inr (8, [.int a0_0, .int a0_1, .int a0_2, .int a0_3, .ref a0_4, .int a0_5, .int a0_6, .int za0_7, .int za0_8, .int za0_9, .int za0_10, .long za0_11, .int a0_12, .int a0_13, .int a0_14, .int a0_15, .int a0_16, .int a0_17, .ref a0_18, .ref a0_19, .ref a0_20, .ref a0_21, .ref a0_22, .ref a0_23, .ref a0_24, .ref a0_25, .ref a0_26, .ref a0_27, .ref a0_28, .ref a0_29, .ref a0_30, .ref a0_31, .ref a0_32, .ref a0_33, .ref a0_34, .ref a0_35, .long a0_36, .int a0_37, .ref a0_38, .ref a0_39, .int a0_40, .ref a0_41, .ref a0_42, .ref a0_43])), (a0_4, .inl (a0_4_c, 1000, .inl a0_4_f))]) (va_A [(a0, .inr (8, [.int a0_0, .int a0_1, .int a0_2, .int a0_3, .ref a0_4, .int a0_5, .int a0_6, .int a0_7, .int a0_8, .int a0_9, .int a0_10, .long a0_11, .int a0_12, .int a0_13, .int a0_14, .int a0_15, .int a0_16, .int a0_17, .ref a0_18, .ref a0_19, .ref a0_20, .ref a0_21, .ref a0_22, .ref a0_23, .ref a0_24, .ref a0_25, .ref a0_26, .ref a0_27, .ref a0_28, .ref a0_29, .ref a0_30, .ref a0_31, .ref a0_32, .ref a0_33, .ref a0_34, .ref a0_35, .long a0_36, .int a0_37, .ref a0_38, .ref a0_39, .int a0_40, .ref a0_41, .ref a0_42, .ref a0_43])), (a0_4, .inl (a0_4_c, 1000, .inl a0_4_f))] sz)) 0 0 (va_A [(a0, .inr (8, [.int a0_0, .int a0_1, .int a0_2, .int a0_3, .ref a0_4, .int a0_5, .int a0_6, .int a0_7, .int a0_8, .int a0_9, .int a0_10, .long a0_11, .int a0_12, .int a0_13, .int a0_14, .int a0_15, .int a0_16, .int a0_17, .ref a0_18, .ref a0_19, .ref a0_20, .ref a0_21, .ref a0_22, .ref a0_23, .ref a0_24, .ref a0_25, .ref a0_26, .ref a0_27, .ref a0_28, .ref a0_29, .ref a0_30, .ref a0_31, .ref a0_32, .ref a0_33, .ref a0_34, .ref a0_35, .long a0_36, .int a0_37, .ref a0_38, .ref a0_39, .int a0_40, .ref a0_41, .ref a0_42, .ref a0_43])), (a0_4, .inl (a0_4_c, 1000, .inl a0_4_f))] sz) := by
  refine Met.ofW (cc := cX9_steps) (maxL := 2) (ret := none) (by decide) rfl ?_
  intro p e s m args below meth c s₁ B hml hv
  obtain ⟨rfl, hsz, hP, hK, hD0, hE⟩ := hv
  have hx := B.exec
  have hb := B.bytes
  have hr := B.returns
  have hts0 := atoms_spec (ws := (.code yX9_steps cX9_steps 2 none :: TBL)) B.pre
  have hts := fun (w : Cond) (h : w ∈ TBL) => hts0 w (List.mem_cons_of_mem _ h)
  have hown : s.vm.findClass RX9 = some m.cls := findClass_of_methodNamed B.named
  have hlocks := B.notSynchronized
  have hN := hE.1
  subst hsz
  have hD := hD0.self (sz := s.heap.size)
  generalize hAe : va_A [(a0, .inr (8, [.int a0_0, .int a0_1, .int a0_2, .int a0_3, .ref a0_4, .int a0_5, .int a0_6, .int a0_7, .int a0_8, .int a0_9, .int a0_10, .long a0_11, .int a0_12, .int a0_13, .int a0_14, .int a0_15, .int a0_16, .int a0_17, .ref a0_18, .ref a0_19, .ref a0_20, .ref a0_21, .ref a0_22, .ref a0_23, .ref a0_24, .ref a0_25, .ref a0_26, .ref a0_27, .ref a0_28, .ref a0_29, .ref a0_30, .ref a0_31, .ref a0_32, .ref a0_33, .ref a0_34, .ref a0_35, .long a0_36, .int a0_37, .ref a0_38, .ref a0_39, .int a0_40, .ref a0_41, .ref a0_42, .ref a0_43])), (a0_4, .inl (a0_4_c, 1000, .inl a0_4_f))] s.heap.size = A at hD hE ⊢
  have hA : ∀ q : Nat, s.heap.size ≤ q → A q := fun q h => by rw [← hAe]; exact Or.inr h
  have hS : va_S A s.heap s.heap [] := va_S.rf
  replace hP : va_P (dC, dI) vwCl [(a0, .inr (8, [.int a0_0, .int a0_1, .int a0_2, .int a0_3, .ref a0_4, .int a0_5, .int a0_6, .int a0_7, .int a0_8, .int a0_9, .int a0_10, .long a0_11, .int a0_12, .int a0_13, .int a0_14, .int a0_15, .int a0_16, .int a0_17, .ref a0_18, .ref a0_19, .ref a0_20, .ref a0_21, .ref a0_22, .ref a0_23, .ref a0_24, .ref a0_25, .ref a0_26, .ref a0_27, .ref a0_28, .ref a0_29, .ref a0_30, .ref a0_31, .ref a0_32, .ref a0_33, .ref a0_34, .ref a0_35, .long a0_36, .int a0_37, .ref a0_38, .ref a0_39, .int a0_40, .ref a0_41, .ref a0_42, .ref a0_43])), (a0_4, .inl (a0_4_c, 1000, .inl a0_4_f))] s.heap := hP
  have hl := lv_entry ([.ref a0]) (n := 2) (Nat.le_of_ble_eq_true rfl)
  rw [lg_entry_eq]
  generalize (lg_sl ([.ref a0]) ++ List.replicate (2 - (lg_sl ([.ref a0])).length) Slot.unset).toArray = ls at hl ⊢
  have hl : lv_has ls 2 [(0, .ref a0)] := hl
  have b_a0_0 := i32b a0_0
  have b_a0_1 := i32b a0_1
  have b_a0_2 := i32b a0_2
  have b_a0_3 := i32b a0_3
  have b_a0_9 := i32b a0_9
  have b_a0_10 := i32b a0_10
  have b_a0_12 := i32b a0_12
  have b_a0_13 := i32b a0_13
  have b_a0_14 := i32b a0_14
  have b_a0_15 := i32b a0_15
  have b_a0_16 := i32b a0_16
  refine lv_aload_n hx hb dX9_steps_0 rfl (lv_at hl 0 rfl) ?_
  refine lv_aload_n hx hb dX9_steps_1 rfl (lv_at hl 0 rfl) ?_
  refine va_get (D := (dC, dI)) (ci := 8) (v := .int a0_8) (C := RX9) (T := TX9) (N := 44) hx hb hts inlX9 hown hK hP 0 rgL2_5ac5f51 rfl 8 (by decide) (hts (.fieldLink RX9 151 "ClosedUntilModel" "to" "I") qw_456) (fun _ h9 => h9) rfl dX9_steps_2 ?_
  refine va_put (D := (dC, dI)) (ci := 8) (v := .int a0_8) (ty := .int) (C := RX9) (T := TX9) (N := 44) hx hb hts inlX9 tyX9 tyX9_ok nmX9 hown hK hP hD hS 0 rgL2_5ac5f51 rfl 7 (by decide) (hts (.fieldLink RX9 154 "ClosedUntilModel" "from" "I") qw_416) (fun _ h9 => h9) rfl (by decide +kernel) rfl rfl (Nat.le_of_ble_eq_true rfl) dX9_steps_5 (fun H locs hP9 hD9 hS9 => ?_)
  clear hP hD hS
  obtain ⟨hP, hD⟩ := rgS2_40109d0 (e := (a0, .inr (8, [.int a0_0, .int a0_1, .int a0_2, .int a0_3, .ref a0_4, .int a0_5, .int a0_6, .int a0_8, .int a0_8, .int a0_9, .int a0_10, .long a0_11, .int a0_12, .int a0_13, .int a0_14, .int a0_15, .int a0_16, .int a0_17, .ref a0_18, .ref a0_19, .ref a0_20, .ref a0_21, .ref a0_22, .ref a0_23, .ref a0_24, .ref a0_25, .ref a0_26, .ref a0_27, .ref a0_28, .ref a0_29, .ref a0_30, .ref a0_31, .ref a0_32, .ref a0_33, .ref a0_34, .ref a0_35, .long a0_36, .int a0_37, .ref a0_38, .ref a0_39, .int a0_40, .ref a0_41, .ref a0_42, .ref a0_43]))) hP9 hD9 rfl
  have hS := hS9; clear hP9 hD9 hS9
  refine wloop (fun n H locs ls => ∃ (f8_0_7 : Int32), n = (1000 - f8_0_7.toInt).toNat ∧ ((0 ≤ f8_0_7.toInt ∧ f8_0_7.toInt ≤ 1000)) ∧ lv_has ls 2 [(0, .ref a0)] ∧ va_P (dC, dI) vwCl [(a0, .inr (8, [.int a0_0, .int a0_1, .int a0_2, .int a0_3, .ref a0_4, .int a0_5, .int a0_6, .int f8_0_7, .int a0_8, .int a0_9, .int a0_10, .long a0_11, .int a0_12, .int a0_13, .int a0_14, .int a0_15, .int a0_16, .int a0_17, .ref a0_18, .ref a0_19, .ref a0_20, .ref a0_21, .ref a0_22, .ref a0_23, .ref a0_24, .ref a0_25, .ref a0_26, .ref a0_27, .ref a0_28, .ref a0_29, .ref a0_30, .ref a0_31, .ref a0_32, .ref a0_33, .ref a0_34, .ref a0_35, .long a0_36, .int a0_37, .ref a0_38, .ref a0_39, .int a0_40, .ref a0_41, .ref a0_42, .ref a0_43])), (a0_4, .inl (a0_4_c, 1000, .inl a0_4_f))] H ∧ va_D A [(a0, .inr (8, [.int a0_0, .int a0_1, .int a0_2, .int a0_3, .ref a0_4, .int a0_5, .int a0_6, .int f8_0_7, .int a0_8, .int a0_9, .int a0_10, .long a0_11, .int a0_12, .int a0_13, .int a0_14, .int a0_15, .int a0_16, .int a0_17, .ref a0_18, .ref a0_19, .ref a0_20, .ref a0_21, .ref a0_22, .ref a0_23, .ref a0_24, .ref a0_25, .ref a0_26, .ref a0_27, .ref a0_28, .ref a0_29, .ref a0_30, .ref a0_31, .ref a0_32, .ref a0_33, .ref a0_34, .ref a0_35, .long a0_36, .int a0_37, .ref a0_38, .ref a0_39, .int a0_40, .ref a0_41, .ref a0_42, .ref a0_43])), (a0_4, .inl (a0_4_c, 1000, .inl a0_4_f))] ∧ va_S A s.heap H locs) ?_ ((1000 - a0_8.toInt).toNat) _ _ _ ⟨a0_8, rfl, (by omega), lv_sub hl [0] rfl, hP, hD, hS⟩
  intro n8 H locs ls hI ih8
  obtain ⟨f8_0_7, hn8, g_f8_0_7, hl, hP, hD, hS⟩ := hI
  have b_f8_0_7 := i32b f8_0_7
  refine lv_aload_n hx hb dX9_steps_8 rfl (lv_at hl 0 rfl) ?_
  refine lv_aload_n hx hb dX9_steps_9 rfl (lv_at hl 0 rfl) ?_
  refine va_get (D := (dC, dI)) (ci := 8) (v := .int f8_0_7) (C := RX9) (T := TX9) (N := 44) hx hb hts inlX9 hown hK hP 0 rgL2_5ac5f51 rfl 7 (by decide) (hts (.fieldLink RX9 154 "ClosedUntilModel" "from" "I") qw_416) (fun _ h9 => h9) rfl dX9_steps_10 ?_
  have hPc := hP
  have hKc := hK
  refine vp_callSi ((va_runV (As := [.int f8_0_7]) (rest := []) ⟨hx, hb, hml, hown, hts⟩ (k_X9_see l dC dI g (a0) (f8_0_7) (a0_0) (a0_1) (a0_2) (a0_3) (a0_4) (a0_5) (a0_6) (f8_0_7) (a0_8) (a0_9) (a0_10) (a0_11) (a0_12) (a0_13) (a0_14) (a0_15) (a0_16) (a0_17) (a0_18) (a0_19) (a0_20) (a0_21) (a0_22) (a0_23) (a0_24) (a0_25) (a0_26) (a0_27) (a0_28) (a0_29) (a0_30) (a0_31) (a0_32) (a0_33) (a0_34) (a0_35) (a0_36) (a0_37) (a0_38) (a0_39) (a0_40) (a0_41) (a0_42) (a0_43) (a0_4_c) (a0_4_f) (by omega) (by omega) (by omega) (by omega) (by omega) (by omega) (by omega) (by omega)) (cwV 1 hts (gwV qw_458 qw_459 qw_460 qw_386 qw_457) rfl rfl rfl (by decide +kernel) ⟨Nat.le_of_ble_eq_true rfl, Nat.le_of_ble_eq_true rfl⟩) ⟨fun a U g9 mk q => ⟨q.1, q.2.1, va_K.moved (u := U) (U := U.calling g9 mk a) (Vm.Alike.refl U.vm) q.2.2.1, Ev.bl q.2.2.2⟩, va_recv hK hP (ci := 8) (q0 := 0) rfl rgL2_5ac5f51, fun U hU hW => ⟨rfl, atB hU hPc, va_K.moved hW.alike hKc, hE.go hS (fun _ h => h.elim) hU hW⟩⟩ rfl rfl hl.1 rfl (lv_room (Nat.le_of_ble_eq_true rfl)) dX9_steps_13 ⟨Nat.le_of_ble_eq_true rfl, Nat.le_of_ble_eq_true rfl⟩)).run (fun r1 h_r1 => ?_)
  have h_r1 : (-1 ≤ r1.toInt ∧ r1.toInt ≤ 255 ∧ (r1.toInt = -1 ∨ f8_0_7.toInt < a0_6.toInt)) := h_r1
  have b_r1 := i32b r1
  refine lv_bipush (v := 32) hx hb dX9_steps_16 (by decide) ?_
  refine lv_icmp_eq (tgt := 34) hx hb dX9_steps_18 (by decide) (fun c18_2 => ?_) (fun c18_2 => ?_)
  · have c18_2 : r1.toInt = 32 := (cv_eq rfl (by decide)).mp c18_2
    refine lv_aload_n hx hb dX9_steps_34 rfl (lv_at hl 0 rfl) ?_
    refine lv_dup hx hb dX9_steps_35 rfl ?_
    refine va_get (D := (dC, dI)) (ci := 8) (v := .int f8_0_7) (C := RX9) (T := TX9) (N := 44) hx hb hts inlX9 hown hK hP 0 rgL2_5ac5f51 rfl 7 (by decide) (hts (.fieldLink RX9 154 "ClosedUntilModel" "from" "I") qw_416) (fun _ h9 => h9) rfl dX9_steps_36 ?_
    refine lv_iconst (v := 1) hx hb dX9_steps_39 (by decide) ?_
    refine lv_iadd hx hb dX9_steps_40 ?_
    refine lv_topi (fun x3 e_x3 => ?_)
    try have e_x3 := ti_add e_x3 rfl (show (1 : Int32).toInt = 1 by decide) (by omega)
    refine va_put (D := (dC, dI)) (ci := 8) (v := .int x3) (ty := .int) (C := RX9) (T := TX9) (N := 44) hx hb hts inlX9 tyX9 tyX9_ok nmX9 hown hK hP hD hS 0 rgL2_5ac5f51 rfl 7 (by decide) (hts (.fieldLink RX9 154 "ClosedUntilModel" "from" "I") qw_416) (fun _ h9 => h9) rfl (by decide +kernel) rfl rfl (Nat.le_of_ble_eq_true rfl) dX9_steps_41 (fun H locs hP9 hD9 hS9 => ?_)
    clear hP hD hS
    obtain ⟨hP, hD⟩ := rgS2_40109d0 (e := (a0, .inr (8, [.int a0_0, .int a0_1, .int a0_2, .int a0_3, .ref a0_4, .int a0_5, .int a0_6, .int x3, .int a0_8, .int a0_9, .int a0_10, .long a0_11, .int a0_12, .int a0_13, .int a0_14, .int a0_15, .int a0_16, .int a0_17, .ref a0_18, .ref a0_19, .ref a0_20, .ref a0_21, .ref a0_22, .ref a0_23, .ref a0_24, .ref a0_25, .ref a0_26, .ref a0_27, .ref a0_28, .ref a0_29, .ref a0_30, .ref a0_31, .ref a0_32, .ref a0_33, .ref a0_34, .ref a0_35, .long a0_36, .int a0_37, .ref a0_38, .ref a0_39, .int a0_40, .ref a0_41, .ref a0_42, .ref a0_43]))) hP9 hD9 rfl
    have hS := hS9; clear hP9 hD9 hS9
    refine lv_goto (tgt := 8) hx hb dX9_steps_44 (by decide) ?_
    exact ih8 ((1000 - x3.toInt).toNat) _ _ _ (by omega) ⟨x3, rfl, (by omega), lv_sub hl [0] rfl, hP, hD, hS⟩
  · have c18_2 : ¬ (r1.toInt = 32) := mt (cv_eq rfl (by decide)).mpr c18_2
    refine lv_aload_n hx hb dX9_steps_21 rfl (lv_at hl 0 rfl) ?_
    refine lv_aload_n hx hb dX9_steps_22 rfl (lv_at hl 0 rfl) ?_
    refine va_get (D := (dC, dI)) (ci := 8) (v := .int f8_0_7) (C := RX9) (T := TX9) (N := 44) hx hb hts inlX9 hown hK hP 0 rgL2_5ac5f51 rfl 7 (by decide) (hts (.fieldLink RX9 154 "ClosedUntilModel" "from" "I") qw_416) (fun _ h9 => h9) rfl dX9_steps_23 ?_
    have hPc := hP
    have hKc := hK
    refine vp_callSi ((va_runV (As := [.int f8_0_7]) (rest := []) ⟨hx, hb, hml, hown, hts⟩ (k_X9_see l dC dI g (a0) (f8_0_7) (a0_0) (a0_1) (a0_2) (a0_3) (a0_4) (a0_5) (a0_6) (f8_0_7) (a0_8) (a0_9) (a0_10) (a0_11) (a0_12) (a0_13) (a0_14) (a0_15) (a0_16) (a0_17) (a0_18) (a0_19) (a0_20) (a0_21) (a0_22) (a0_23) (a0_24) (a0_25) (a0_26) (a0_27) (a0_28) (a0_29) (a0_30) (a0_31) (a0_32) (a0_33) (a0_34) (a0_35) (a0_36) (a0_37) (a0_38) (a0_39) (a0_40) (a0_41) (a0_42) (a0_43) (a0_4_c) (a0_4_f) (by omega) (by omega) (by omega) (by omega) (by omega) (by omega) (by omega) (by omega)) (cwV 1 hts (gwV qw_458 qw_459 qw_460 qw_386 qw_457) rfl rfl rfl (by decide +kernel) ⟨Nat.le_of_ble_eq_true rfl, Nat.le_of_ble_eq_true rfl⟩) ⟨fun a U g9 mk q => ⟨q.1, q.2.1, va_K.moved (u := U) (U := U.calling g9 mk a) (Vm.Alike.refl U.vm) q.2.2.1, Ev.bl q.2.2.2⟩, va_recv hK hP (ci := 8) (q0 := 0) rfl rgL2_5ac5f51, fun U hU hW => ⟨rfl, atB hU hPc, va_K.moved hW.alike hKc, hE.go hS (fun _ h => h.elim) hU hW⟩⟩ rfl rfl hl.1 rfl (lv_room (Nat.le_of_ble_eq_true rfl)) dX9_steps_26 ⟨Nat.le_of_ble_eq_true rfl, Nat.le_of_ble_eq_true rfl⟩)).run (fun r4 h_r4 => ?_)
    have h_r4 : (-1 ≤ r4.toInt ∧ r4.toInt ≤ 255 ∧ (r4.toInt = -1 ∨ f8_0_7.toInt < a0_6.toInt)) := h_r4
    have b_r4 := i32b r4
    refine lv_bipush (v := 10) hx hb dX9_steps_29 (by decide) ?_
    refine lv_icmp_ne (tgt := 47) hx hb dX9_steps_31 (by decide) (fun c31_5 => ?_) (fun c31_5 => ?_)
    · have c31_5 : ¬ (r4.toInt = 10) := mt (cv_eq rfl (by decide)).mpr c31_5
      refine lv_aload_n hx hb dX9_steps_47 rfl (lv_at hl 0 rfl) ?_
      refine lv_aload_n hx hb dX9_steps_48 rfl (lv_at hl 0 rfl) ?_
      refine va_get (D := (dC, dI)) (ci := 8) (v := .int f8_0_7) (C := RX9) (T := TX9) (N := 44) hx hb hts inlX9 hown hK hP 0 rgL2_5ac5f51 rfl 7 (by decide) (hts (.fieldLink RX9 154 "ClosedUntilModel" "from" "I") qw_416) (fun _ h9 => h9) rfl dX9_steps_49 ?_
      have hPc := hP
      have hKc := hK
      refine vp_callSi ((va_runV (As := [.int f8_0_7]) (rest := []) ⟨hx, hb, hml, hown, hts⟩ (k_X9_see l dC dI g (a0) (f8_0_7) (a0_0) (a0_1) (a0_2) (a0_3) (a0_4) (a0_5) (a0_6) (f8_0_7) (a0_8) (a0_9) (a0_10) (a0_11) (a0_12) (a0_13) (a0_14) (a0_15) (a0_16) (a0_17) (a0_18) (a0_19) (a0_20) (a0_21) (a0_22) (a0_23) (a0_24) (a0_25) (a0_26) (a0_27) (a0_28) (a0_29) (a0_30) (a0_31) (a0_32) (a0_33) (a0_34) (a0_35) (a0_36) (a0_37) (a0_38) (a0_39) (a0_40) (a0_41) (a0_42) (a0_43) (a0_4_c) (a0_4_f) (by omega) (by omega) (by omega) (by omega) (by omega) (by omega) (by omega) (by omega)) (cwV 1 hts (gwV qw_458 qw_459 qw_460 qw_386 qw_457) rfl rfl rfl (by decide +kernel) ⟨Nat.le_of_ble_eq_true rfl, Nat.le_of_ble_eq_true rfl⟩) ⟨fun a U g9 mk q => ⟨q.1, q.2.1, va_K.moved (u := U) (U := U.calling g9 mk a) (Vm.Alike.refl U.vm) q.2.2.1, Ev.bl q.2.2.2⟩, va_recv hK hP (ci := 8) (q0 := 0) rfl rgL2_5ac5f51, fun U hU hW => ⟨rfl, atB hU hPc, va_K.moved hW.alike hKc, hE.go hS (fun _ h => h.elim) hU hW⟩⟩ rfl rfl hl.1 rfl (lv_room (Nat.le_of_ble_eq_true rfl)) dX9_steps_52 ⟨Nat.le_of_ble_eq_true rfl, Nat.le_of_ble_eq_true rfl⟩)).run (fun r6 h_r6 => ?_)
      have h_r6 : (-1 ≤ r6.toInt ∧ r6.toInt ≤ 255 ∧ (r6.toInt = -1 ∨ f8_0_7.toInt < a0_6.toInt)) := h_r6
      have b_r6 := i32b r6
      refine lv_istore_n (lv' := [(1, .int r6), (0, .ref a0)]) hx hb dX9_steps_55 rfl hl (by decide) rfl (fun ls hl => ?_)
      refine lv_aload_n hx hb dX9_steps_56 rfl (lv_at hl 1 rfl) ?_
      refine lv_aload_n hx hb dX9_steps_57 rfl (lv_at hl 1 rfl) ?_
      refine va_get (D := (dC, dI)) (ci := 8) (v := .int f8_0_7) (C := RX9) (T := TX9) (N := 44) hx hb hts inlX9 hown hK hP 0 rgL2_5ac5f51 rfl 7 (by decide) (hts (.fieldLink RX9 154 "ClosedUntilModel" "from" "I") qw_416) (fun _ h9 => h9) rfl dX9_steps_58 ?_
      refine lv_iconst (v := 1) hx hb dX9_steps_61 (by decide) ?_
      refine lv_iadd hx hb dX9_steps_62 ?_
      refine lv_topi (fun x7 e_x7 => ?_)
      try have e_x7 := ti_add e_x7 rfl (show (1 : Int32).toInt = 1 by decide) (by omega)
      refine va_put (D := (dC, dI)) (ci := 8) (v := .int x7) (ty := .int) (C := RX9) (T := TX9) (N := 44) hx hb hts inlX9 tyX9 tyX9_ok nmX9 hown hK hP hD hS 0 rgL2_5ac5f51 rfl 8 (by decide) (hts (.fieldLink RX9 151 "ClosedUntilModel" "to" "I") qw_456) (fun _ h9 => h9) rfl (by decide +kernel) rfl rfl (Nat.le_of_ble_eq_true rfl) dX9_steps_63 (fun H locs hP9 hD9 hS9 => ?_)
      clear hP hD hS
      obtain ⟨hP, hD⟩ := rgS2_40109d0 (e := (a0, .inr (8, [.int a0_0, .int a0_1, .int a0_2, .int a0_3, .ref a0_4, .int a0_5, .int a0_6, .int f8_0_7, .int x7, .int a0_9, .int a0_10, .long a0_11, .int a0_12, .int a0_13, .int a0_14, .int a0_15, .int a0_16, .int a0_17, .ref a0_18, .ref a0_19, .ref a0_20, .ref a0_21, .ref a0_22, .ref a0_23, .ref a0_24, .ref a0_25, .ref a0_26, .ref a0_27, .ref a0_28, .ref a0_29, .ref a0_30, .ref a0_31, .ref a0_32, .ref a0_33, .ref a0_34, .ref a0_35, .long a0_36, .int a0_37, .ref a0_38, .ref a0_39, .int a0_40, .ref a0_41, .ref a0_42, .ref a0_43]))) hP9 hD9 rfl
      have hS := hS9; clear hP9 hD9 hS9
      refine lv_aload_n hx hb dX9_steps_66 rfl (lv_at hl 1 rfl) ?_
      refine lv_iconst (v := 4) hx hb dX9_steps_67 (by decide) ?_
      refine va_put (D := (dC, dI)) (ci := 8) (v := .int 4) (ty := .int) (C := RX9) (T := TX9) (N := 44) hx hb hts inlX9 tyX9 tyX9_ok nmX9 hown hK hP hD hS 0 rgL2_5ac5f51 rfl 9 (by decide) (hts (.fieldLink RX9 160 "ClosedUntilModel" "token" "I") qw_421) (fun _ h9 => h9) rfl (by decide +kernel) rfl rfl (Nat.le_of_ble_eq_true rfl) dX9_steps_68 (fun H locs hP9 hD9 hS9 => ?_)
      clear hP hD hS
      obtain ⟨hP, hD⟩ := rgS2_40109d0 (e := (a0, .inr (8, [.int a0_0, .int a0_1, .int a0_2, .int a0_3, .ref a0_4, .int a0_5, .int a0_6, .int f8_0_7, .int x7, .int 4, .int a0_10, .long a0_11, .int a0_12, .int a0_13, .int a0_14, .int a0_15, .int a0_16, .int a0_17, .ref a0_18, .ref a0_19, .ref a0_20, .ref a0_21, .ref a0_22, .ref a0_23, .ref a0_24, .ref a0_25, .ref a0_26, .ref a0_27, .ref a0_28, .ref a0_29, .ref a0_30, .ref a0_31, .ref a0_32, .ref a0_33, .ref a0_34, .ref a0_35, .long a0_36, .int a0_37, .ref a0_38, .ref a0_39, .int a0_40, .ref a0_41, .ref a0_42, .ref a0_43]))) hP9 hD9 rfl
      have hS := hS9; clear hP9 hD9 hS9
      refine lv_aload_n hx hb dX9_steps_71 rfl (lv_at hl 1 rfl) ?_
      refine lv_iconst (v := 0) hx hb dX9_steps_72 (by decide) ?_
      refine va_put (D := (dC, dI)) (ci := 8) (v := .int 0) (ty := .int) (C := RX9) (T := TX9) (N := 44) hx hb hts inlX9 tyX9 tyX9_ok nmX9 hown hK hP hD hS 0 rgL2_5ac5f51 rfl 10 (by decide) (hts (.fieldLink RX9 163 "ClosedUntilModel" "value" "I") qw_461) (fun _ h9 => h9) rfl (by decide +kernel) rfl rfl (Nat.le_of_ble_eq_true rfl) dX9_steps_73 (fun H locs hP9 hD9 hS9 => ?_)
      clear hP hD hS
      obtain ⟨hP, hD⟩ := rgS2_40109d0 (e := (a0, .inr (8, [.int a0_0, .int a0_1, .int a0_2, .int a0_3, .ref a0_4, .int a0_5, .int a0_6, .int f8_0_7, .int x7, .int 4, .int 0, .long a0_11, .int a0_12, .int a0_13, .int a0_14, .int a0_15, .int a0_16, .int a0_17, .ref a0_18, .ref a0_19, .ref a0_20, .ref a0_21, .ref a0_22, .ref a0_23, .ref a0_24, .ref a0_25, .ref a0_26, .ref a0_27, .ref a0_28, .ref a0_29, .ref a0_30, .ref a0_31, .ref a0_32, .ref a0_33, .ref a0_34, .ref a0_35, .long a0_36, .int a0_37, .ref a0_38, .ref a0_39, .int a0_40, .ref a0_41, .ref a0_42, .ref a0_43]))) hP9 hD9 rfl
      have hS := hS9; clear hP9 hD9 hS9
      refine lv_aload_n hx hb dX9_steps_76 rfl (lv_at hl 1 rfl) ?_
      refine lv_lconst (v := 0) hx hb dX9_steps_77 (by decide) ?_
      refine va_put (D := (dC, dI)) (ci := 8) (v := .long 0) (ty := .long) (C := RX9) (T := TX9) (N := 44) hx hb hts inlX9 tyX9 tyX9_ok nmX9 hown hK hP hD hS 0 rgL2_5ac5f51 rfl 11 (by decide) (hts (.fieldLink RX9 166 "ClosedUntilModel" "word" "J") qw_422) (fun _ h9 => h9) rfl (by decide +kernel) rfl rfl (Nat.le_of_ble_eq_true rfl) dX9_steps_78 (fun H locs hP9 hD9 hS9 => ?_)
      clear hP hD hS
      obtain ⟨hP, hD⟩ := rgS2_40109d0 (e := (a0, .inr (8, [.int a0_0, .int a0_1, .int a0_2, .int a0_3, .ref a0_4, .int a0_5, .int a0_6, .int f8_0_7, .int x7, .int 4, .int 0, .long 0, .int a0_12, .int a0_13, .int a0_14, .int a0_15, .int a0_16, .int a0_17, .ref a0_18, .ref a0_19, .ref a0_20, .ref a0_21, .ref a0_22, .ref a0_23, .ref a0_24, .ref a0_25, .ref a0_26, .ref a0_27, .ref a0_28, .ref a0_29, .ref a0_30, .ref a0_31, .ref a0_32, .ref a0_33, .ref a0_34, .ref a0_35, .long a0_36, .int a0_37, .ref a0_38, .ref a0_39, .int a0_40, .ref a0_41, .ref a0_42, .ref a0_43]))) hP9 hD9 rfl
      have hS := hS9; clear hP9 hD9 hS9
      refine lv_iload_n hx hb dX9_steps_81 rfl (lv_at hl 0 rfl) ?_
      refine lv_iconst (v := (-1)) hx hb dX9_steps_82 (by decide) ?_
      refine lv_icmp_ne (tgt := 102) hx hb dX9_steps_83 (by decide) (fun c83_8 => ?_) (fun c83_8 => ?_)
      · have c83_8 : ¬ (r6.toInt = (-1)) := mt (cv_eq rfl (by decide)).mpr c83_8
        refine lv_iload_n hx hb dX9_steps_102 rfl (lv_at hl 0 rfl) ?_
        refine lv_bipush (v := 59) hx hb dX9_steps_103 (by decide) ?_
        refine lv_icmp_ne (tgt := 116) hx hb dX9_steps_105 (by decide) (fun c105_9 => ?_) (fun c105_9 => ?_)
        · have c105_9 : ¬ (r6.toInt = 59) := mt (cv_eq rfl (by decide)).mpr c105_9
          refine lv_iload_n hx hb dX9_steps_116 rfl (lv_at hl 0 rfl) ?_
          refine lv_i2l hx hb dX9_steps_117 rfl ?_
          refine lv_ldc2 (v := 97) hx hb hown (hts (.constantLong RX9 170 (97)) qw_462) dX9_steps_118 ?_
          refine lv_ldc2 (v := 122) hx hb hown (hts (.constantLong RX9 172 (122)) qw_463) dX9_steps_121 ?_
          have hPc := (rgP2_6c9046d hP)
          have hKc := (rgK1_f3b3254 hK)
          refine vp_callSi ((va_runS (As := [.long (r6.toInt64), .long 97, .long 122]) (rest := []) ⟨hx, hb, hml, hown, hts⟩ (k_X9_within l dC dI g ((r6.toInt64)) (97) (122) (r6.toInt) (97) (122) (w_li rfl) (by decide) (by decide)) (va_cwS 3 hts (gwS qw_444 qw_445 qw_386 qw_443) rfl rfl rfl (by decide +kernel) ⟨Nat.le_of_ble_eq_true rfl, Nat.le_of_ble_eq_true rfl⟩) ⟨fun a U g9 mk q => ⟨q.1, q.2.1, va_K.moved (u := U) (U := U.calling g9 mk a) (Vm.Alike.refl U.vm) q.2.2.1, Ev.bl q.2.2.2⟩, fun U hU hW => ⟨rfl, atB hU hPc, va_K.moved hW.alike hKc, hE.go hS (fun _ h => h.elim) hU hW⟩⟩ rfl rfl hl.1 rfl (lv_room (Nat.le_of_ble_eq_true rfl)) dX9_steps_124 ⟨Nat.le_of_ble_eq_true rfl, Nat.le_of_ble_eq_true rfl⟩)).run (fun r10 h_r10 => ?_)
          have h_r10 : (r10 = 0 ∨ r10 = 1) ∧ ((r10.toInt = 1 ∧ 97 ≤ r6.toInt ∧ r6.toInt ≤ 122) ∨ (r10.toInt = 0 ∧ ¬ (97 ≤ r6.toInt ∧ r6.toInt ≤ 122))) := h_r10
          have b_r10 := z01 h_r10.1
          refine lv_if_eq (tgt := 243) hx hb dX9_steps_127 (by decide) (fun c127_11 => ?_) (fun c127_11 => ?_)
          · have c127_11 : r10.toInt = 0 := (cv_eq rfl (by decide)).mp c127_11
            refine lv_iload_n hx hb dX9_steps_243 rfl (lv_at hl 0 rfl) ?_
            refine lv_i2l hx hb dX9_steps_244 rfl ?_
            refine lv_ldc2 (v := 48) hx hb hown (hts (.constantLong RX9 176 (48)) qw_464) dX9_steps_245 ?_
            refine lv_ldc2 (v := 57) hx hb hown (hts (.constantLong RX9 178 (57)) qw_465) dX9_steps_248 ?_
            have hPc := (rgP2_6c9046d hP)
            have hKc := (rgK1_f3b3254 hK)
            refine vp_callSi ((va_runS (As := [.long (r6.toInt64), .long 48, .long 57]) (rest := []) ⟨hx, hb, hml, hown, hts⟩ (k_X9_within l dC dI g ((r6.toInt64)) (48) (57) (r6.toInt) (48) (57) (w_li rfl) (by decide) (by decide)) (va_cwS 3 hts (gwS qw_444 qw_445 qw_386 qw_443) rfl rfl rfl (by decide +kernel) ⟨Nat.le_of_ble_eq_true rfl, Nat.le_of_ble_eq_true rfl⟩) ⟨fun a U g9 mk q => ⟨q.1, q.2.1, va_K.moved (u := U) (U := U.calling g9 mk a) (Vm.Alike.refl U.vm) q.2.2.1, Ev.bl q.2.2.2⟩, fun U hU hW => ⟨rfl, atB hU hPc, va_K.moved hW.alike hKc, hE.go hS (fun _ h => h.elim) hU hW⟩⟩ rfl rfl hl.1 rfl (lv_room (Nat.le_of_ble_eq_true rfl)) dX9_steps_251 ⟨Nat.le_of_ble_eq_true rfl, Nat.le_of_ble_eq_true rfl⟩)).run (fun r12 h_r12 => ?_)
            have h_r12 : (r12 = 0 ∨ r12 = 1) ∧ ((r12.toInt = 1 ∧ 48 ≤ r6.toInt ∧ r6.toInt ≤ 57) ∨ (r12.toInt = 0 ∧ ¬ (48 ≤ r6.toInt ∧ r6.toInt ≤ 57))) := h_r12
            have b_r12 := z01 h_r12.1
            refine lv_if_eq (tgt := 343) hx hb dX9_steps_254 (by decide) (fun c254_13 => ?_) (fun c254_13 => ?_)
            · have c254_13 : r12.toInt = 0 := (cv_eq rfl (by decide)).mp c254_13
              have qc0 : (0 : Int32).toInt = 0 := by decide
              have qc4 : (4 : Int32).toInt = 4 := by decide
              refine W.widen (k := 0) (n := 0) (Nat.le_of_ble_eq_true rfl) (Nat.le_of_ble_eq_true rfl) ?_
              have hP9 := hP
              have hD9 := hD
              have hK9 := (rgK1_f3b3254 hK)
              have hf9_0 : (0 ≤ f8_0_7.toInt ∧ f8_0_7.toInt ≤ 1000) := by omega
              have hf9_1 : (0 ≤ x7.toInt ∧ x7.toInt ≤ 1000) := by omega
              exact W.vret hx hb hr (fun t ht hW => ⟨⟨(), rfl, trivial, f8_0_7, x7, 4, 0, 0, hf9_0, hf9_1, atB ht hP9, va_K.moved hW.alike hK9, hD9⟩, hS.F ht⟩) hS.2.2 dX9_steps_343
            · have c254_13 : ¬ (r12.toInt = 0) := mt (cv_eq rfl (by decide)).mpr c254_13
              refine lv_aload_n hx hb dX9_steps_257 rfl (lv_at hl 1 rfl) ?_
              refine lv_aload_n hx hb dX9_steps_258 rfl (lv_at hl 1 rfl) ?_
              refine va_get (D := (dC, dI)) (ci := 8) (v := .int f8_0_7) (C := RX9) (T := TX9) (N := 44) hx hb hts inlX9 hown hK hP 0 rgL2_5ac5f51 rfl 7 (by decide) (hts (.fieldLink RX9 154 "ClosedUntilModel" "from" "I") qw_416) (fun _ h9 => h9) rfl dX9_steps_259 ?_
              refine va_put (D := (dC, dI)) (ci := 8) (v := .int f8_0_7) (ty := .int) (C := RX9) (T := TX9) (N := 44) hx hb hts inlX9 tyX9 tyX9_ok nmX9 hown hK hP hD hS 0 rgL2_5ac5f51 rfl 8 (by decide) (hts (.fieldLink RX9 151 "ClosedUntilModel" "to" "I") qw_456) (fun _ h9 => h9) rfl (by decide +kernel) rfl rfl (Nat.le_of_ble_eq_true rfl) dX9_steps_262 (fun H locs hP9 hD9 hS9 => ?_)
              clear hP hD hS
              obtain ⟨hP, hD⟩ := rgS2_40109d0 (e := (a0, .inr (8, [.int a0_0, .int a0_1, .int a0_2, .int a0_3, .ref a0_4, .int a0_5, .int a0_6, .int f8_0_7, .int f8_0_7, .int 4, .int 0, .long 0, .int a0_12, .int a0_13, .int a0_14, .int a0_15, .int a0_16, .int a0_17, .ref a0_18, .ref a0_19, .ref a0_20, .ref a0_21, .ref a0_22, .ref a0_23, .ref a0_24, .ref a0_25, .ref a0_26, .ref a0_27, .ref a0_28, .ref a0_29, .ref a0_30, .ref a0_31, .ref a0_32, .ref a0_33, .ref a0_34, .ref a0_35, .long a0_36, .int a0_37, .ref a0_38, .ref a0_39, .int a0_40, .ref a0_41, .ref a0_42, .ref a0_43]))) hP9 hD9 rfl
              have hS := hS9; clear hP9 hD9 hS9
              have qc0 : (0 : Int32).toInt = 0 := by decide
              refine wloop (fun n H locs ls => ∃ (f265_0_8 : Int32) (f265_0_10 : Int32), n = (1000 - f265_0_8.toInt).toNat ∧ ((0 ≤ f265_0_8.toInt ∧ f265_0_8.toInt ≤ 1000)) ∧ lv_has ls 2 [(1, .int r6), (0, .ref a0)] ∧ va_P (dC, dI) vwCl [(a0, .inr (8, [.int a0_0, .int a0_1, .int a0_2, .int a0_3, .ref a0_4, .int a0_5, .int a0_6, .int f8_0_7, .int f265_0_8, .int 4, .int f265_0_10, .long 0, .int a0_12, .int a0_13, .int a0_14, .int a0_15, .int a0_16, .int a0_17, .ref a0_18, .ref a0_19, .ref a0_20, .ref a0_21, .ref a0_22, .ref a0_23, .ref a0_24, .ref a0_25, .ref a0_26, .ref a0_27, .ref a0_28, .ref a0_29, .ref a0_30, .ref a0_31, .ref a0_32, .ref a0_33, .ref a0_34, .ref a0_35, .long a0_36, .int a0_37, .ref a0_38, .ref a0_39, .int a0_40, .ref a0_41, .ref a0_42, .ref a0_43])), (a0_4, .inl (a0_4_c, 1000, .inl a0_4_f))] H ∧ va_D A [(a0, .inr (8, [.int a0_0, .int a0_1, .int a0_2, .int a0_3, .ref a0_4, .int a0_5, .int a0_6, .int f8_0_7, .int f265_0_8, .int 4, .int f265_0_10, .long 0, .int a0_12, .int a0_13, .int a0_14, .int a0_15, .int a0_16, .int a0_17, .ref a0_18, .ref a0_19, .ref a0_20, .ref a0_21, .ref a0_22, .ref a0_23, .ref a0_24, .ref a0_25, .ref a0_26, .ref a0_27, .ref a0_28, .ref a0_29, .ref a0_30, .ref a0_31, .ref a0_32, .ref a0_33, .ref a0_34, .ref a0_35, .long a0_36, .int a0_37, .ref a0_38, .ref a0_39, .int a0_40, .ref a0_41, .ref a0_42, .ref a0_43])), (a0_4, .inl (a0_4_c, 1000, .inl a0_4_f))] ∧ va_S A s.heap H locs) ?_ ((1000 - f8_0_7.toInt).toNat) _ _ _ ⟨f8_0_7, 0, rfl, (by omega), lv_sub hl [0, 1] rfl, hP, hD, hS⟩
              intro n265 H locs ls hI ih265
              obtain ⟨f265_0_8, f265_0_10, hn265, g_f265_0_8, hl, hP, hD, hS⟩ := hI
              have b_f265_0_8 := i32b f265_0_8
              have b_f265_0_10 := i32b f265_0_10
              refine lv_aload_n hx hb dX9_steps_265 rfl (lv_at hl 1 rfl) ?_
              refine lv_aload_n hx hb dX9_steps_266 rfl (lv_at hl 1 rfl) ?_
              refine va_get (D := (dC, dI)) (ci := 8) (v := .int f265_0_8) (C := RX9) (T := TX9) (N := 44) hx hb hts inlX9 hown hK hP 0 rgL2_5ac5f51 rfl 8 (by decide) (hts (.fieldLink RX9 151 "ClosedUntilModel" "to" "I") qw_456) (fun _ h9 => h9) rfl dX9_steps_267 ?_
              have qc0 : (0 : Int32).toInt = 0 := by decide
              have qc4 : (4 : Int32).toInt = 4 := by decide
              have hPc := hP
              have hKc := hK
              refine vp_callSi ((va_runV (As := [.int f265_0_8]) (rest := []) ⟨hx, hb, hml, hown, hts⟩ (k_X9_see l dC dI g (a0) (f265_0_8) (a0_0) (a0_1) (a0_2) (a0_3) (a0_4) (a0_5) (a0_6) (f8_0_7) (f265_0_8) (4) (f265_0_10) (0) (a0_12) (a0_13) (a0_14) (a0_15) (a0_16) (a0_17) (a0_18) (a0_19) (a0_20) (a0_21) (a0_22) (a0_23) (a0_24) (a0_25) (a0_26) (a0_27) (a0_28) (a0_29) (a0_30) (a0_31) (a0_32) (a0_33) (a0_34) (a0_35) (a0_36) (a0_37) (a0_38) (a0_39) (a0_40) (a0_41) (a0_42) (a0_43) (a0_4_c) (a0_4_f) (by omega) (by omega) (by omega) (by omega) (by omega) (by omega) (by omega) (by omega)) (cwV 1 hts (gwV qw_458 qw_459 qw_460 qw_386 qw_457) rfl rfl rfl (by decide +kernel) ⟨Nat.le_of_ble_eq_true rfl, Nat.le_of_ble_eq_true rfl⟩) ⟨fun a U g9 mk q => ⟨q.1, q.2.1, va_K.moved (u := U) (U := U.calling g9 mk a) (Vm.Alike.refl U.vm) q.2.2.1, Ev.bl q.2.2.2⟩, va_recv hK hP (ci := 8) (q0 := 0) rfl rgL2_5ac5f51, fun U hU hW => ⟨rfl, atB hU hPc, va_K.moved hW.alike hKc, hE.go hS (fun _ h => h.elim) hU hW⟩⟩ rfl rfl hl.1 rfl (lv_room (Nat.le_of_ble_eq_true rfl)) dX9_steps_270 ⟨Nat.le_of_ble_eq_true rfl, Nat.le_of_ble_eq_true rfl⟩)).run (fun r14 h_r14 => ?_)
              have h_r14 : (-1 ≤ r14.toInt ∧ r14.toInt ≤ 255 ∧ (r14.toInt = -1 ∨ f265_0_8.toInt < a0_6.toInt)) := h_r14
              have b_r14 := i32b r14
              refine lv_i2l hx hb dX9_steps_273 rfl ?_
              refine lv_ldc2 (v := 48) hx hb hown (hts (.constantLong RX9 176 (48)) qw_464) dX9_steps_274 ?_
              refine lv_ldc2 (v := 57) hx hb hown (hts (.constantLong RX9 178 (57)) qw_465) dX9_steps_277 ?_
              have hPc := (rgP2_6c9046d hP)
              have hKc := (rgK1_f3b3254 hK)
              refine vp_callSi ((va_runS (As := [.long (r14.toInt64), .long 48, .long 57]) (rest := []) ⟨hx, hb, hml, hown, hts⟩ (k_X9_within l dC dI g ((r14.toInt64)) (48) (57) (r14.toInt) (48) (57) (w_li rfl) (by decide) (by decide)) (va_cwS 3 hts (gwS qw_444 qw_445 qw_386 qw_443) rfl rfl rfl (by decide +kernel) ⟨Nat.le_of_ble_eq_true rfl, Nat.le_of_ble_eq_true rfl⟩) ⟨fun a U g9 mk q => ⟨q.1, q.2.1, va_K.moved (u := U) (U := U.calling g9 mk a) (Vm.Alike.refl U.vm) q.2.2.1, Ev.bl q.2.2.2⟩, fun U hU hW => ⟨rfl, atB hU hPc, va_K.moved hW.alike hKc, hE.go hS (fun _ h => h.elim) hU hW⟩⟩ rfl rfl hl.1 rfl (lv_room (Nat.le_of_ble_eq_true rfl)) dX9_steps_280 ⟨Nat.le_of_ble_eq_true rfl, Nat.le_of_ble_eq_true rfl⟩)).run (fun r15 h_r15 => ?_)
              have h_r15 : (r15 = 0 ∨ r15 = 1) ∧ ((r15.toInt = 1 ∧ 48 ≤ r14.toInt ∧ r14.toInt ≤ 57) ∨ (r15.toInt = 0 ∧ ¬ (48 ≤ r14.toInt ∧ r14.toInt ≤ 57))) := h_r15
              have b_r15 := z01 h_r15.1
              refine lv_if_eq (tgt := 338) hx hb dX9_steps_283 (by decide) (fun c283_16 => ?_) (fun c283_16 => ?_)
              · have c283_16 : r15.toInt = 0 := (cv_eq rfl (by decide)).mp c283_16
                refine lv_aload_n hx hb dX9_steps_338 rfl (lv_at hl 1 rfl) ?_
                refine lv_iconst (v := 2) hx hb dX9_steps_339 (by decide) ?_
                refine va_put (D := (dC, dI)) (ci := 8) (v := .int 2) (ty := .int) (C := RX9) (T := TX9) (N := 44) hx hb hts inlX9 tyX9 tyX9_ok nmX9 hown hK hP hD hS 0 rgL2_5ac5f51 rfl 9 (by decide) (hts (.fieldLink RX9 160 "ClosedUntilModel" "token" "I") qw_421) (fun _ h9 => h9) rfl (by decide +kernel) rfl rfl (Nat.le_of_ble_eq_true rfl) dX9_steps_340 (fun H locs hP9 hD9 hS9 => ?_)
                clear hP hD hS
                obtain ⟨hP, hD⟩ := rgS2_40109d0 (e := (a0, .inr (8, [.int a0_0, .int a0_1, .int a0_2, .int a0_3, .ref a0_4, .int a0_5, .int a0_6, .int f8_0_7, .int f265_0_8, .int 2, .int f265_0_10, .long 0, .int a0_12, .int a0_13, .int a0_14, .int a0_15, .int a0_16, .int a0_17, .ref a0_18, .ref a0_19, .ref a0_20, .ref a0_21, .ref a0_22, .ref a0_23, .ref a0_24, .ref a0_25, .ref a0_26, .ref a0_27, .ref a0_28, .ref a0_29, .ref a0_30, .ref a0_31, .ref a0_32, .ref a0_33, .ref a0_34, .ref a0_35, .long a0_36, .int a0_37, .ref a0_38, .ref a0_39, .int a0_40, .ref a0_41, .ref a0_42, .ref a0_43]))) hP9 hD9 rfl
                have hS := hS9; clear hP9 hD9 hS9
                have qc2 : (2 : Int32).toInt = 2 := by decide
                refine W.widen (k := 0) (n := 0) (Nat.le_of_ble_eq_true rfl) (Nat.le_of_ble_eq_true rfl) ?_
                have hP9 := hP
                have hD9 := hD
                have hK9 := (rgK1_f3b3254 hK)
                have hf9_0 : (0 ≤ f8_0_7.toInt ∧ f8_0_7.toInt ≤ 1000) := by omega
                have hf9_1 : (0 ≤ f265_0_8.toInt ∧ f265_0_8.toInt ≤ 1000) := by omega
                exact W.vret hx hb hr (fun t ht hW => ⟨⟨(), rfl, trivial, f8_0_7, f265_0_8, 2, f265_0_10, 0, hf9_0, hf9_1, atB ht hP9, va_K.moved hW.alike hK9, hD9⟩, hS.F ht⟩) hS.2.2 dX9_steps_343
              · have c283_16 : ¬ (r15.toInt = 0) := mt (cv_eq rfl (by decide)).mpr c283_16
                refine lv_aload_n hx hb dX9_steps_286 rfl (lv_at hl 1 rfl) ?_
                refine lv_aload_n hx hb dX9_steps_287 rfl (lv_at hl 1 rfl) ?_
                refine va_get (D := (dC, dI)) (ci := 8) (v := .int f265_0_10) (C := RX9) (T := TX9) (N := 44) hx hb hts inlX9 hown hK hP 0 rgL2_5ac5f51 rfl 10 (by decide) (hts (.fieldLink RX9 163 "ClosedUntilModel" "value" "I") qw_461) (fun _ h9 => h9) rfl dX9_steps_288 ?_
                refine lv_ldc (v := 100000) hx hb hown (hts (.constant RX9 180 (100000)) qw_466) dX9_steps_291 ?_
                refine lv_icmp_ge (tgt := 318) hx hb dX9_steps_293 (by decide) (fun c293_17 => ?_) (fun c293_17 => ?_)
                · have c293_17 : 100000 ≤ f265_0_10.toInt := (cv_le (by decide) rfl).mp c293_17
                  refine lv_aload_n hx hb dX9_steps_318 rfl (lv_at hl 1 rfl) ?_
                  refine va_get (D := (dC, dI)) (ci := 8) (v := .int f265_0_10) (C := RX9) (T := TX9) (N := 44) hx hb hts inlX9 hown hK hP 0 rgL2_5ac5f51 rfl 10 (by decide) (hts (.fieldLink RX9 163 "ClosedUntilModel" "value" "I") qw_461) (fun _ h9 => h9) rfl dX9_steps_319 ?_
                  refine va_put (D := (dC, dI)) (ci := 8) (v := .int f265_0_10) (ty := .int) (C := RX9) (T := TX9) (N := 44) hx hb hts inlX9 tyX9 tyX9_ok nmX9 hown hK hP hD hS 0 rgL2_5ac5f51 rfl 10 (by decide) (hts (.fieldLink RX9 163 "ClosedUntilModel" "value" "I") qw_461) (fun _ h9 => h9) rfl (by decide +kernel) rfl rfl (Nat.le_of_ble_eq_true rfl) dX9_steps_322 (fun H locs hP9 hD9 hS9 => ?_)
                  clear hP hD hS
                  obtain ⟨hP, hD⟩ := rgS2_40109d0 (e := (a0, .inr (8, [.int a0_0, .int a0_1, .int a0_2, .int a0_3, .ref a0_4, .int a0_5, .int a0_6, .int f8_0_7, .int f265_0_8, .int 4, .int f265_0_10, .long 0, .int a0_12, .int a0_13, .int a0_14, .int a0_15, .int a0_16, .int a0_17, .ref a0_18, .ref a0_19, .ref a0_20, .ref a0_21, .ref a0_22, .ref a0_23, .ref a0_24, .ref a0_25, .ref a0_26, .ref a0_27, .ref a0_28, .ref a0_29, .ref a0_30, .ref a0_31, .ref a0_32, .ref a0_33, .ref a0_34, .ref a0_35, .long a0_36, .int a0_37, .ref a0_38, .ref a0_39, .int a0_40, .ref a0_41, .ref a0_42, .ref a0_43]))) hP9 hD9 rfl
                  have hS := hS9; clear hP9 hD9 hS9
                  refine lv_aload_n hx hb dX9_steps_325 rfl (lv_at hl 1 rfl) ?_
                  refine lv_dup hx hb dX9_steps_326 rfl ?_
                  refine va_get (D := (dC, dI)) (ci := 8) (v := .int f265_0_8) (C := RX9) (T := TX9) (N := 44) hx hb hts inlX9 hown hK hP 0 rgL2_5ac5f51 rfl 8 (by decide) (hts (.fieldLink RX9 151 "ClosedUntilModel" "to" "I") qw_456) (fun _ h9 => h9) rfl dX9_steps_327 ?_
                  refine lv_iconst (v := 1) hx hb dX9_steps_330 (by decide) ?_
                  refine lv_iadd hx hb dX9_steps_331 ?_
                  refine lv_topi (fun x18 e_x18 => ?_)
                  try have e_x18 := ti_add e_x18 rfl (show (1 : Int32).toInt = 1 by decide) (by omega)
                  refine va_put (D := (dC, dI)) (ci := 8) (v := .int x18) (ty := .int) (C := RX9) (T := TX9) (N := 44) hx hb hts inlX9 tyX9 tyX9_ok nmX9 hown hK hP hD hS 0 rgL2_5ac5f51 rfl 8 (by decide) (hts (.fieldLink RX9 151 "ClosedUntilModel" "to" "I") qw_456) (fun _ h9 => h9) rfl (by decide +kernel) rfl rfl (Nat.le_of_ble_eq_true rfl) dX9_steps_332 (fun H locs hP9 hD9 hS9 => ?_)
                  clear hP hD hS
                  obtain ⟨hP, hD⟩ := rgS2_40109d0 (e := (a0, .inr (8, [.int a0_0, .int a0_1, .int a0_2, .int a0_3, .ref a0_4, .int a0_5, .int a0_6, .int f8_0_7, .int x18, .int 4, .int f265_0_10, .long 0, .int a0_12, .int a0_13, .int a0_14, .int a0_15, .int a0_16, .int a0_17, .ref a0_18, .ref a0_19, .ref a0_20, .ref a0_21, .ref a0_22, .ref a0_23, .ref a0_24, .ref a0_25, .ref a0_26, .ref a0_27, .ref a0_28, .ref a0_29, .ref a0_30, .ref a0_31, .ref a0_32, .ref a0_33, .ref a0_34, .ref a0_35, .long a0_36, .int a0_37, .ref a0_38, .ref a0_39, .int a0_40, .ref a0_41, .ref a0_42, .ref a0_43]))) hP9 hD9 rfl
                  have hS := hS9; clear hP9 hD9 hS9
                  refine lv_goto (tgt := 265) hx hb dX9_steps_335 (by decide) ?_
                  exact ih265 ((1000 - x18.toInt).toNat) _ _ _ (by omega) ⟨x18, f265_0_10, rfl, (by omega), lv_sub hl [0, 1] rfl, hP, hD, hS⟩
                · have c293_17 : ¬ (100000 ≤ f265_0_10.toInt) := mt (cv_le (by decide) rfl).mpr c293_17
                  refine lv_bipush (v := 10) hx hb dX9_steps_296 (by decide) ?_
                  refine lv_aload_n hx hb dX9_steps_298 rfl (lv_at hl 1 rfl) ?_
                  refine va_get (D := (dC, dI)) (ci := 8) (v := .int f265_0_10) (C := RX9) (T := TX9) (N := 44) hx hb hts inlX9 hown hK hP 0 rgL2_5ac5f51 rfl 10 (by decide) (hts (.fieldLink RX9 163 "ClosedUntilModel" "value" "I") qw_461) (fun _ h9 => h9) rfl dX9_steps_299 ?_
                  refine lv_imul hx hb dX9_steps_302 ?_
                  refine lv_topi (fun x19 e_x19 => ?_)
                  refine lv_aload_n hx hb dX9_steps_303 rfl (lv_at hl 1 rfl) ?_
                  refine lv_aload_n hx hb dX9_steps_304 rfl (lv_at hl 1 rfl) ?_
                  refine va_get (D := (dC, dI)) (ci := 8) (v := .int f265_0_8) (C := RX9) (T := TX9) (N := 44) hx hb hts inlX9 hown hK hP 0 rgL2_5ac5f51 rfl 8 (by decide) (hts (.fieldLink RX9 151 "ClosedUntilModel" "to" "I") qw_456) (fun _ h9 => h9) rfl dX9_steps_305 ?_
                  have qc0 : (0 : Int32).toInt = 0 := by decide
                  have qc4 : (4 : Int32).toInt = 4 := by decide
                  have hPc := hP
                  have hKc := hK
                  refine vp_callSi ((va_runV (As := [.int f265_0_8]) (rest := [.int x19, .ref a0]) ⟨hx, hb, hml, hown, hts⟩ (k_X9_see l dC dI g (a0) (f265_0_8) (a0_0) (a0_1) (a0_2) (a0_3) (a0_4) (a0_5) (a0_6) (f8_0_7) (f265_0_8) (4) (f265_0_10) (0) (a0_12) (a0_13) (a0_14) (a0_15) (a0_16) (a0_17) (a0_18) (a0_19) (a0_20) (a0_21) (a0_22) (a0_23) (a0_24) (a0_25) (a0_26) (a0_27) (a0_28) (a0_29) (a0_30) (a0_31) (a0_32) (a0_33) (a0_34) (a0_35) (a0_36) (a0_37) (a0_38) (a0_39) (a0_40) (a0_41) (a0_42) (a0_43) (a0_4_c) (a0_4_f) (by omega) (by omega) (by omega) (by omega) (by omega) (by omega) (by omega) (by omega)) (cwV 1 hts (gwV qw_458 qw_459 qw_460 qw_386 qw_457) rfl rfl rfl (by decide +kernel) ⟨Nat.le_of_ble_eq_true rfl, Nat.le_of_ble_eq_true rfl⟩) ⟨fun a U g9 mk q => ⟨q.1, q.2.1, va_K.moved (u := U) (U := U.calling g9 mk a) (Vm.Alike.refl U.vm) q.2.2.1, Ev.bl q.2.2.2⟩, va_recv hK hP (ci := 8) (q0 := 0) rfl rgL2_5ac5f51, fun U hU hW => ⟨rfl, atB hU hPc, va_K.moved hW.alike hKc, hE.go hS (fun _ h => h.elim) hU hW⟩⟩ rfl rfl hl.1 rfl (lv_room (Nat.le_of_ble_eq_true rfl)) dX9_steps_308 ⟨Nat.le_of_ble_eq_true rfl, Nat.le_of_ble_eq_true rfl⟩)).run (fun r20 h_r20 => ?_)
                  have h_r20 : (-1 ≤ r20.toInt ∧ r20.toInt ≤ 255 ∧ (r20.toInt = -1 ∨ f265_0_8.toInt < a0_6.toInt)) := h_r20
                  have b_r20 := i32b r20
                  refine lv_iadd hx hb dX9_steps_311 ?_
                  refine lv_topi (fun x21 e_x21 => ?_)
                  refine lv_bipush (v := 48) hx hb dX9_steps_312 (by decide) ?_
                  refine lv_isub hx hb dX9_steps_314 ?_
                  refine lv_topi (fun x22 e_x22 => ?_)
                  refine lv_goto (tgt := 322) hx hb dX9_steps_315 (by decide) ?_
                  refine va_put (D := (dC, dI)) (ci := 8) (v := .int x22) (ty := .int) (C := RX9) (T := TX9) (N := 44) hx hb hts inlX9 tyX9 tyX9_ok nmX9 hown hK hP hD hS 0 rgL2_5ac5f51 rfl 10 (by decide) (hts (.fieldLink RX9 163 "ClosedUntilModel" "value" "I") qw_461) (fun _ h9 => h9) rfl (by decide +kernel) rfl rfl (Nat.le_of_ble_eq_true rfl) dX9_steps_322 (fun H locs hP9 hD9 hS9 => ?_)
                  clear hP hD hS
                  obtain ⟨hP, hD⟩ := rgS2_40109d0 (e := (a0, .inr (8, [.int a0_0, .int a0_1, .int a0_2, .int a0_3, .ref a0_4, .int a0_5, .int a0_6, .int f8_0_7, .int f265_0_8, .int 4, .int x22, .long 0, .int a0_12, .int a0_13, .int a0_14, .int a0_15, .int a0_16, .int a0_17, .ref a0_18, .ref a0_19, .ref a0_20, .ref a0_21, .ref a0_22, .ref a0_23, .ref a0_24, .ref a0_25, .ref a0_26, .ref a0_27, .ref a0_28, .ref a0_29, .ref a0_30, .ref a0_31, .ref a0_32, .ref a0_33, .ref a0_34, .ref a0_35, .long a0_36, .int a0_37, .ref a0_38, .ref a0_39, .int a0_40, .ref a0_41, .ref a0_42, .ref a0_43]))) hP9 hD9 rfl
                  have hS := hS9; clear hP9 hD9 hS9
                  refine lv_aload_n hx hb dX9_steps_325 rfl (lv_at hl 1 rfl) ?_
                  refine lv_dup hx hb dX9_steps_326 rfl ?_
                  refine va_get (D := (dC, dI)) (ci := 8) (v := .int f265_0_8) (C := RX9) (T := TX9) (N := 44) hx hb hts inlX9 hown hK hP 0 rgL2_5ac5f51 rfl 8 (by decide) (hts (.fieldLink RX9 151 "ClosedUntilModel" "to" "I") qw_456) (fun _ h9 => h9) rfl dX9_steps_327 ?_
                  refine lv_iconst (v := 1) hx hb dX9_steps_330 (by decide) ?_
                  refine lv_iadd hx hb dX9_steps_331 ?_
                  refine lv_topi (fun x23 e_x23 => ?_)
                  try have e_x23 := ti_add e_x23 rfl (show (1 : Int32).toInt = 1 by decide) (by omega)
                  refine va_put (D := (dC, dI)) (ci := 8) (v := .int x23) (ty := .int) (C := RX9) (T := TX9) (N := 44) hx hb hts inlX9 tyX9 tyX9_ok nmX9 hown hK hP hD hS 0 rgL2_5ac5f51 rfl 8 (by decide) (hts (.fieldLink RX9 151 "ClosedUntilModel" "to" "I") qw_456) (fun _ h9 => h9) rfl (by decide +kernel) rfl rfl (Nat.le_of_ble_eq_true rfl) dX9_steps_332 (fun H locs hP9 hD9 hS9 => ?_)
                  clear hP hD hS
                  obtain ⟨hP, hD⟩ := rgS2_40109d0 (e := (a0, .inr (8, [.int a0_0, .int a0_1, .int a0_2, .int a0_3, .ref a0_4, .int a0_5, .int a0_6, .int f8_0_7, .int x23, .int 4, .int x22, .long 0, .int a0_12, .int a0_13, .int a0_14, .int a0_15, .int a0_16, .int a0_17, .ref a0_18, .ref a0_19, .ref a0_20, .ref a0_21, .ref a0_22, .ref a0_23, .ref a0_24, .ref a0_25, .ref a0_26, .ref a0_27, .ref a0_28, .ref a0_29, .ref a0_30, .ref a0_31, .ref a0_32, .ref a0_33, .ref a0_34, .ref a0_35, .long a0_36, .int a0_37, .ref a0_38, .ref a0_39, .int a0_40, .ref a0_41, .ref a0_42, .ref a0_43]))) hP9 hD9 rfl
                  have hS := hS9; clear hP9 hD9 hS9
                  refine lv_goto (tgt := 265) hx hb dX9_steps_335 (by decide) ?_
                  exact ih265 ((1000 - x23.toInt).toNat) _ _ _ (by omega) ⟨x23, x22, rfl, (by omega), lv_sub hl [0, 1] rfl, hP, hD, hS⟩
          · have c127_11 : ¬ (r10.toInt = 0) := mt (cv_eq rfl (by decide)).mpr c127_11
            refine lv_aload_n hx hb dX9_steps_130 rfl (lv_at hl 1 rfl) ?_
            refine lv_aload_n hx hb dX9_steps_131 rfl (lv_at hl 1 rfl) ?_
            refine va_get (D := (dC, dI)) (ci := 8) (v := .int f8_0_7) (C := RX9) (T := TX9) (N := 44) hx hb hts inlX9 hown hK hP 0 rgL2_5ac5f51 rfl 7 (by decide) (hts (.fieldLink RX9 154 "ClosedUntilModel" "from" "I") qw_416) (fun _ h9 => h9) rfl dX9_steps_132 ?_
            refine va_put (D := (dC, dI)) (ci := 8) (v := .int f8_0_7) (ty := .int) (C := RX9) (T := TX9) (N := 44) hx hb hts inlX9 tyX9 tyX9_ok nmX9 hown hK hP hD hS 0 rgL2_5ac5f51 rfl 8 (by decide) (hts (.fieldLink RX9 151 "ClosedUntilModel" "to" "I") qw_456) (fun _ h9 => h9) rfl (by decide +kernel) rfl rfl (Nat.le_of_ble_eq_true rfl) dX9_steps_135 (fun H locs hP9 hD9 hS9 => ?_)
            clear hP hD hS
            obtain ⟨hP, hD⟩ := rgS2_40109d0 (e := (a0, .inr (8, [.int a0_0, .int a0_1, .int a0_2, .int a0_3, .ref a0_4, .int a0_5, .int a0_6, .int f8_0_7, .int f8_0_7, .int 4, .int 0, .long 0, .int a0_12, .int a0_13, .int a0_14, .int a0_15, .int a0_16, .int a0_17, .ref a0_18, .ref a0_19, .ref a0_20, .ref a0_21, .ref a0_22, .ref a0_23, .ref a0_24, .ref a0_25, .ref a0_26, .ref a0_27, .ref a0_28, .ref a0_29, .ref a0_30, .ref a0_31, .ref a0_32, .ref a0_33, .ref a0_34, .ref a0_35, .long a0_36, .int a0_37, .ref a0_38, .ref a0_39, .int a0_40, .ref a0_41, .ref a0_42, .ref a0_43]))) hP9 hD9 rfl
            have hS := hS9; clear hP9 hD9 hS9
            refine wloop (fun n H locs ls => ∃ (f138_0_8 : Int32) (f138_0_11 : Int64), n = (1000 - f138_0_8.toInt).toNat ∧ ((0 ≤ f138_0_8.toInt ∧ f138_0_8.toInt ≤ 1000)) ∧ lv_has ls 2 [(1, .int r6), (0, .ref a0)] ∧ va_P (dC, dI) vwCl [(a0, .inr (8, [.int a0_0, .int a0_1, .int a0_2, .int a0_3, .ref a0_4, .int a0_5, .int a0_6, .int f8_0_7, .int f138_0_8, .int 4, .int 0, .long f138_0_11, .int a0_12, .int a0_13, .int a0_14, .int a0_15, .int a0_16, .int a0_17, .ref a0_18, .ref a0_19, .ref a0_20, .ref a0_21, .ref a0_22, .ref a0_23, .ref a0_24, .ref a0_25, .ref a0_26, .ref a0_27, .ref a0_28, .ref a0_29, .ref a0_30, .ref a0_31, .ref a0_32, .ref a0_33, .ref a0_34, .ref a0_35, .long a0_36, .int a0_37, .ref a0_38, .ref a0_39, .int a0_40, .ref a0_41, .ref a0_42, .ref a0_43])), (a0_4, .inl (a0_4_c, 1000, .inl a0_4_f))] H ∧ va_D A [(a0, .inr (8, [.int a0_0, .int a0_1, .int a0_2, .int a0_3, .ref a0_4, .int a0_5, .int a0_6, .int f8_0_7, .int f138_0_8, .int 4, .int 0, .long f138_0_11, .int a0_12, .int a0_13, .int a0_14, .int a0_15, .int a0_16, .int a0_17, .ref a0_18, .ref a0_19, .ref a0_20, .ref a0_21, .ref a0_22, .ref a0_23, .ref a0_24, .ref a0_25, .ref a0_26, .ref a0_27, .ref a0_28, .ref a0_29, .ref a0_30, .ref a0_31, .ref a0_32, .ref a0_33, .ref a0_34, .ref a0_35, .long a0_36, .int a0_37, .ref a0_38, .ref a0_39, .int a0_40, .ref a0_41, .ref a0_42, .ref a0_43])), (a0_4, .inl (a0_4_c, 1000, .inl a0_4_f))] ∧ va_S A s.heap H locs) ?_ ((1000 - f8_0_7.toInt).toNat) _ _ _ ⟨f8_0_7, 0, rfl, (by omega), lv_sub hl [0, 1] rfl, hP, hD, hS⟩
            intro n138 H locs ls hI ih138
            obtain ⟨f138_0_8, f138_0_11, hn138, g_f138_0_8, hl, hP, hD, hS⟩ := hI
            have b_f138_0_8 := i32b f138_0_8
            refine lv_aload_n hx hb dX9_steps_138 rfl (lv_at hl 1 rfl) ?_
            refine lv_aload_n hx hb dX9_steps_139 rfl (lv_at hl 1 rfl) ?_
            refine va_get (D := (dC, dI)) (ci := 8) (v := .int f138_0_8) (C := RX9) (T := TX9) (N := 44) hx hb hts inlX9 hown hK hP 0 rgL2_5ac5f51 rfl 8 (by decide) (hts (.fieldLink RX9 151 "ClosedUntilModel" "to" "I") qw_456) (fun _ h9 => h9) rfl dX9_steps_140 ?_
            have qc0 : (0 : Int32).toInt = 0 := by decide
            have qc4 : (4 : Int32).toInt = 4 := by decide
            have hPc := hP
            have hKc := hK
            refine vp_callSi ((va_runV (As := [.int f138_0_8]) (rest := []) ⟨hx, hb, hml, hown, hts⟩ (k_X9_see l dC dI g (a0) (f138_0_8) (a0_0) (a0_1) (a0_2) (a0_3) (a0_4) (a0_5) (a0_6) (f8_0_7) (f138_0_8) (4) (0) (f138_0_11) (a0_12) (a0_13) (a0_14) (a0_15) (a0_16) (a0_17) (a0_18) (a0_19) (a0_20) (a0_21) (a0_22) (a0_23) (a0_24) (a0_25) (a0_26) (a0_27) (a0_28) (a0_29) (a0_30) (a0_31) (a0_32) (a0_33) (a0_34) (a0_35) (a0_36) (a0_37) (a0_38) (a0_39) (a0_40) (a0_41) (a0_42) (a0_43) (a0_4_c) (a0_4_f) (by omega) (by omega) (by omega) (by omega) (by omega) (by omega) (by omega) (by omega)) (cwV 1 hts (gwV qw_458 qw_459 qw_460 qw_386 qw_457) rfl rfl rfl (by decide +kernel) ⟨Nat.le_of_ble_eq_true rfl, Nat.le_of_ble_eq_true rfl⟩) ⟨fun a U g9 mk q => ⟨q.1, q.2.1, va_K.moved (u := U) (U := U.calling g9 mk a) (Vm.Alike.refl U.vm) q.2.2.1, Ev.bl q.2.2.2⟩, va_recv hK hP (ci := 8) (q0 := 0) rfl rgL2_5ac5f51, fun U hU hW => ⟨rfl, atB hU hPc, va_K.moved hW.alike hKc, hE.go hS (fun _ h => h.elim) hU hW⟩⟩ rfl rfl hl.1 rfl (lv_room (Nat.le_of_ble_eq_true rfl)) dX9_steps_143 ⟨Nat.le_of_ble_eq_true rfl, Nat.le_of_ble_eq_true rfl⟩)).run (fun r24 h_r24 => ?_)
            have h_r24 : (-1 ≤ r24.toInt ∧ r24.toInt ≤ 255 ∧ (r24.toInt = -1 ∨ f138_0_8.toInt < a0_6.toInt)) := h_r24
            have b_r24 := i32b r24
            refine lv_i2l hx hb dX9_steps_146 rfl ?_
            refine lv_ldc2 (v := 97) hx hb hown (hts (.constantLong RX9 170 (97)) qw_462) dX9_steps_147 ?_
            refine lv_ldc2 (v := 122) hx hb hown (hts (.constantLong RX9 172 (122)) qw_463) dX9_steps_150 ?_
            have hPc := (rgP2_6c9046d hP)
            have hKc := (rgK1_f3b3254 hK)
            refine vp_callSi ((va_runS (As := [.long (r24.toInt64), .long 97, .long 122]) (rest := []) ⟨hx, hb, hml, hown, hts⟩ (k_X9_within l dC dI g ((r24.toInt64)) (97) (122) (r24.toInt) (97) (122) (w_li rfl) (by decide) (by decide)) (va_cwS 3 hts (gwS qw_444 qw_445 qw_386 qw_443) rfl rfl rfl (by decide +kernel) ⟨Nat.le_of_ble_eq_true rfl, Nat.le_of_ble_eq_true rfl⟩) ⟨fun a U g9 mk q => ⟨q.1, q.2.1, va_K.moved (u := U) (U := U.calling g9 mk a) (Vm.Alike.refl U.vm) q.2.2.1, Ev.bl q.2.2.2⟩, fun U hU hW => ⟨rfl, atB hU hPc, va_K.moved hW.alike hKc, hE.go hS (fun _ h => h.elim) hU hW⟩⟩ rfl rfl hl.1 rfl (lv_room (Nat.le_of_ble_eq_true rfl)) dX9_steps_153 ⟨Nat.le_of_ble_eq_true rfl, Nat.le_of_ble_eq_true rfl⟩)).run (fun r25 h_r25 => ?_)
            have h_r25 : (r25 = 0 ∨ r25 = 1) ∧ ((r25.toInt = 1 ∧ 97 ≤ r24.toInt ∧ r24.toInt ≤ 122) ∨ (r25.toInt = 0 ∧ ¬ (97 ≤ r24.toInt ∧ r24.toInt ≤ 122))) := h_r25
            have b_r25 := z01 h_r25.1
            refine lv_if_eq (tgt := 217) hx hb dX9_steps_156 (by decide) (fun c156_26 => ?_) (fun c156_26 => ?_)
            · have c156_26 : r25.toInt = 0 := (cv_eq rfl (by decide)).mp c156_26
              refine lv_aload_n hx hb dX9_steps_217 rfl (lv_at hl 1 rfl) ?_
              refine lv_aload_n hx hb dX9_steps_218 rfl (lv_at hl 1 rfl) ?_
              refine va_get (D := (dC, dI)) (ci := 8) (v := .int f138_0_8) (C := RX9) (T := TX9) (N := 44) hx hb hts inlX9 hown hK hP 0 rgL2_5ac5f51 rfl 8 (by decide) (hts (.fieldLink RX9 151 "ClosedUntilModel" "to" "I") qw_456) (fun _ h9 => h9) rfl dX9_steps_219 ?_
              refine lv_aload_n hx hb dX9_steps_222 rfl (lv_at hl 1 rfl) ?_
              refine va_get (D := (dC, dI)) (ci := 8) (v := .int f8_0_7) (C := RX9) (T := TX9) (N := 44) hx hb hts inlX9 hown hK hP 0 rgL2_5ac5f51 rfl 7 (by decide) (hts (.fieldLink RX9 154 "ClosedUntilModel" "from" "I") qw_416) (fun _ h9 => h9) rfl dX9_steps_223 ?_
              refine lv_isub hx hb dX9_steps_226 ?_
              refine lv_topi (fun x27 e_x27 => ?_)
              try have e_x27 := ti_sub e_x27 rfl rfl (by omega)
              refine lv_bipush (v := 9) hx hb dX9_steps_227 (by decide) ?_
              refine lv_icmp_ge (tgt := 236) hx hb dX9_steps_229 (by decide) (fun c229_28 => ?_) (fun c229_28 => ?_)
              · have c229_28 : 9 ≤ x27.toInt := (cv_le (by decide) rfl).mp c229_28
                refine lv_iconst (v := 4) hx hb dX9_steps_236 (by decide) ?_
                refine va_put (D := (dC, dI)) (ci := 8) (v := .int 4) (ty := .int) (C := RX9) (T := TX9) (N := 44) hx hb hts inlX9 tyX9 tyX9_ok nmX9 hown hK hP hD hS 0 rgL2_5ac5f51 rfl 9 (by decide) (hts (.fieldLink RX9 160 "ClosedUntilModel" "token" "I") qw_421) (fun _ h9 => h9) rfl (by decide +kernel) rfl rfl (Nat.le_of_ble_eq_true rfl) dX9_steps_237 (fun H locs hP9 hD9 hS9 => ?_)
                clear hP hD hS
                obtain ⟨hP, hD⟩ := rgS2_40109d0 (e := (a0, .inr (8, [.int a0_0, .int a0_1, .int a0_2, .int a0_3, .ref a0_4, .int a0_5, .int a0_6, .int f8_0_7, .int f138_0_8, .int 4, .int 0, .long f138_0_11, .int a0_12, .int a0_13, .int a0_14, .int a0_15, .int a0_16, .int a0_17, .ref a0_18, .ref a0_19, .ref a0_20, .ref a0_21, .ref a0_22, .ref a0_23, .ref a0_24, .ref a0_25, .ref a0_26, .ref a0_27, .ref a0_28, .ref a0_29, .ref a0_30, .ref a0_31, .ref a0_32, .ref a0_33, .ref a0_34, .ref a0_35, .long a0_36, .int a0_37, .ref a0_38, .ref a0_39, .int a0_40, .ref a0_41, .ref a0_42, .ref a0_43]))) hP9 hD9 rfl
                have hS := hS9; clear hP9 hD9 hS9
                refine lv_goto (tgt := 343) hx hb dX9_steps_240 (by decide) ?_
                have qc0 : (0 : Int32).toInt = 0 := by decide
                have qc4 : (4 : Int32).toInt = 4 := by decide
                refine W.widen (k := 0) (n := 0) (Nat.le_of_ble_eq_true rfl) (Nat.le_of_ble_eq_true rfl) ?_
                have hP9 := hP
                have hD9 := hD
                have hK9 := (rgK1_f3b3254 hK)
                have hf9_0 : (0 ≤ f8_0_7.toInt ∧ f8_0_7.toInt ≤ 1000) := by omega
                have hf9_1 : (0 ≤ f138_0_8.toInt ∧ f138_0_8.toInt ≤ 1000) := by omega
                exact W.vret hx hb hr (fun t ht hW => ⟨⟨(), rfl, trivial, f8_0_7, f138_0_8, 4, 0, f138_0_11, hf9_0, hf9_1, atB ht hP9, va_K.moved hW.alike hK9, hD9⟩, hS.F ht⟩) hS.2.2 dX9_steps_343
              · have c229_28 : ¬ (9 ≤ x27.toInt) := mt (cv_le (by decide) rfl).mpr c229_28
                refine lv_iconst (v := 1) hx hb dX9_steps_232 (by decide) ?_
                refine lv_goto (tgt := 237) hx hb dX9_steps_233 (by decide) ?_
                refine va_put (D := (dC, dI)) (ci := 8) (v := .int 1) (ty := .int) (C := RX9) (T := TX9) (N := 44) hx hb hts inlX9 tyX9 tyX9_ok nmX9 hown hK hP hD hS 0 rgL2_5ac5f51 rfl 9 (by decide) (hts (.fieldLink RX9 160 "ClosedUntilModel" "token" "I") qw_421) (fun _ h9 => h9) rfl (by decide +kernel) rfl rfl (Nat.le_of_ble_eq_true rfl) dX9_steps_237 (fun H locs hP9 hD9 hS9 => ?_)
                clear hP hD hS
                obtain ⟨hP, hD⟩ := rgS2_40109d0 (e := (a0, .inr (8, [.int a0_0, .int a0_1, .int a0_2, .int a0_3, .ref a0_4, .int a0_5, .int a0_6, .int f8_0_7, .int f138_0_8, .int 1, .int 0, .long f138_0_11, .int a0_12, .int a0_13, .int a0_14, .int a0_15, .int a0_16, .int a0_17, .ref a0_18, .ref a0_19, .ref a0_20, .ref a0_21, .ref a0_22, .ref a0_23, .ref a0_24, .ref a0_25, .ref a0_26, .ref a0_27, .ref a0_28, .ref a0_29, .ref a0_30, .ref a0_31, .ref a0_32, .ref a0_33, .ref a0_34, .ref a0_35, .long a0_36, .int a0_37, .ref a0_38, .ref a0_39, .int a0_40, .ref a0_41, .ref a0_42, .ref a0_43]))) hP9 hD9 rfl
                have hS := hS9; clear hP9 hD9 hS9
                refine lv_goto (tgt := 343) hx hb dX9_steps_240 (by decide) ?_
                have qc0 : (0 : Int32).toInt = 0 := by decide
                have qc1 : (1 : Int32).toInt = 1 := by decide
                refine W.widen (k := 0) (n := 0) (Nat.le_of_ble_eq_true rfl) (Nat.le_of_ble_eq_true rfl) ?_
                have hP9 := hP
                have hD9 := hD
                have hK9 := (rgK1_f3b3254 hK)
                have hf9_0 : (0 ≤ f8_0_7.toInt ∧ f8_0_7.toInt ≤ 1000) := by omega
                have hf9_1 : (0 ≤ f138_0_8.toInt ∧ f138_0_8.toInt ≤ 1000) := by omega
                exact W.vret hx hb hr (fun t ht hW => ⟨⟨(), rfl, trivial, f8_0_7, f138_0_8, 1, 0, f138_0_11, hf9_0, hf9_1, atB ht hP9, va_K.moved hW.alike hK9, hD9⟩, hS.F ht⟩) hS.2.2 dX9_steps_343
            · have c156_26 : ¬ (r25.toInt = 0) := mt (cv_eq rfl (by decide)).mpr c156_26
              refine lv_aload_n hx hb dX9_steps_159 rfl (lv_at hl 1 rfl) ?_
              refine lv_aload_n hx hb dX9_steps_160 rfl (lv_at hl 1 rfl) ?_
              refine va_get (D := (dC, dI)) (ci := 8) (v := .int f138_0_8) (C := RX9) (T := TX9) (N := 44) hx hb hts inlX9 hown hK hP 0 rgL2_5ac5f51 rfl 8 (by decide) (hts (.fieldLink RX9 151 "ClosedUntilModel" "to" "I") qw_456) (fun _ h9 => h9) rfl dX9_steps_161 ?_
              refine lv_aload_n hx hb dX9_steps_164 rfl (lv_at hl 1 rfl) ?_
              refine va_get (D := (dC, dI)) (ci := 8) (v := .int f8_0_7) (C := RX9) (T := TX9) (N := 44) hx hb hts inlX9 hown hK hP 0 rgL2_5ac5f51 rfl 7 (by decide) (hts (.fieldLink RX9 154 "ClosedUntilModel" "from" "I") qw_416) (fun _ h9 => h9) rfl dX9_steps_165 ?_
              refine lv_isub hx hb dX9_steps_168 ?_
              refine lv_topi (fun x29 e_x29 => ?_)
              try have e_x29 := ti_sub e_x29 rfl rfl (by omega)
              refine lv_bipush (v := 8) hx hb dX9_steps_169 (by decide) ?_
              refine lv_icmp_ge (tgt := 197) hx hb dX9_steps_171 (by decide) (fun c171_30 => ?_) (fun c171_30 => ?_)
              · have c171_30 : 8 ≤ x29.toInt := (cv_le (by decide) rfl).mp c171_30
                refine lv_aload_n hx hb dX9_steps_197 rfl (lv_at hl 1 rfl) ?_
                refine va_get (D := (dC, dI)) (ci := 8) (v := .long f138_0_11) (C := RX9) (T := TX9) (N := 44) hx hb hts inlX9 hown hK hP 0 rgL2_5ac5f51 rfl 11 (by decide) (hts (.fieldLink RX9 166 "ClosedUntilModel" "word" "J") qw_422) (fun _ h9 => h9) rfl dX9_steps_198 ?_
                refine va_put (D := (dC, dI)) (ci := 8) (v := .long f138_0_11) (ty := .long) (C := RX9) (T := TX9) (N := 44) hx hb hts inlX9 tyX9 tyX9_ok nmX9 hown hK hP hD hS 0 rgL2_5ac5f51 rfl 11 (by decide) (hts (.fieldLink RX9 166 "ClosedUntilModel" "word" "J") qw_422) (fun _ h9 => h9) rfl (by decide +kernel) rfl rfl (Nat.le_of_ble_eq_true rfl) dX9_steps_201 (fun H locs hP9 hD9 hS9 => ?_)
                clear hP hD hS
                obtain ⟨hP, hD⟩ := rgS2_40109d0 (e := (a0, .inr (8, [.int a0_0, .int a0_1, .int a0_2, .int a0_3, .ref a0_4, .int a0_5, .int a0_6, .int f8_0_7, .int f138_0_8, .int 4, .int 0, .long f138_0_11, .int a0_12, .int a0_13, .int a0_14, .int a0_15, .int a0_16, .int a0_17, .ref a0_18, .ref a0_19, .ref a0_20, .ref a0_21, .ref a0_22, .ref a0_23, .ref a0_24, .ref a0_25, .ref a0_26, .ref a0_27, .ref a0_28, .ref a0_29, .ref a0_30, .ref a0_31, .ref a0_32, .ref a0_33, .ref a0_34, .ref a0_35, .long a0_36, .int a0_37, .ref a0_38, .ref a0_39, .int a0_40, .ref a0_41, .ref a0_42, .ref a0_43]))) hP9 hD9 rfl
                have hS := hS9; clear hP9 hD9 hS9
                refine lv_aload_n hx hb dX9_steps_204 rfl (lv_at hl 1 rfl) ?_
                refine lv_dup hx hb dX9_steps_205 rfl ?_
                refine va_get (D := (dC, dI)) (ci := 8) (v := .int f138_0_8) (C := RX9) (T := TX9) (N := 44) hx hb hts inlX9 hown hK hP 0 rgL2_5ac5f51 rfl 8 (by decide) (hts (.fieldLink RX9 151 "ClosedUntilModel" "to" "I") qw_456) (fun _ h9 => h9) rfl dX9_steps_206 ?_
                refine lv_iconst (v := 1) hx hb dX9_steps_209 (by decide) ?_
                refine lv_iadd hx hb dX9_steps_210 ?_
                refine lv_topi (fun x31 e_x31 => ?_)
                try have e_x31 := ti_add e_x31 rfl (show (1 : Int32).toInt = 1 by decide) (by omega)
                refine va_put (D := (dC, dI)) (ci := 8) (v := .int x31) (ty := .int) (C := RX9) (T := TX9) (N := 44) hx hb hts inlX9 tyX9 tyX9_ok nmX9 hown hK hP hD hS 0 rgL2_5ac5f51 rfl 8 (by decide) (hts (.fieldLink RX9 151 "ClosedUntilModel" "to" "I") qw_456) (fun _ h9 => h9) rfl (by decide +kernel) rfl rfl (Nat.le_of_ble_eq_true rfl) dX9_steps_211 (fun H locs hP9 hD9 hS9 => ?_)
                clear hP hD hS
                obtain ⟨hP, hD⟩ := rgS2_40109d0 (e := (a0, .inr (8, [.int a0_0, .int a0_1, .int a0_2, .int a0_3, .ref a0_4, .int a0_5, .int a0_6, .int f8_0_7, .int x31, .int 4, .int 0, .long f138_0_11, .int a0_12, .int a0_13, .int a0_14, .int a0_15, .int a0_16, .int a0_17, .ref a0_18, .ref a0_19, .ref a0_20, .ref a0_21, .ref a0_22, .ref a0_23, .ref a0_24, .ref a0_25, .ref a0_26, .ref a0_27, .ref a0_28, .ref a0_29, .ref a0_30, .ref a0_31, .ref a0_32, .ref a0_33, .ref a0_34, .ref a0_35, .long a0_36, .int a0_37, .ref a0_38, .ref a0_39, .int a0_40, .ref a0_41, .ref a0_42, .ref a0_43]))) hP9 hD9 rfl
                have hS := hS9; clear hP9 hD9 hS9
                refine lv_goto (tgt := 138) hx hb dX9_steps_214 (by decide) ?_
                exact ih138 ((1000 - x31.toInt).toNat) _ _ _ (by omega) ⟨x31, f138_0_11, rfl, (by omega), lv_sub hl [0, 1] rfl, hP, hD, hS⟩
              · have c171_30 : ¬ (8 ≤ x29.toInt) := mt (cv_le (by decide) rfl).mpr c171_30
                refine lv_aload_n hx hb dX9_steps_174 rfl (lv_at hl 1 rfl) ?_
                refine va_get (D := (dC, dI)) (ci := 8) (v := .long f138_0_11) (C := RX9) (T := TX9) (N := 44) hx hb hts inlX9 hown hK hP 0 rgL2_5ac5f51 rfl 11 (by decide) (hts (.fieldLink RX9 166 "ClosedUntilModel" "word" "J") qw_422) (fun _ h9 => h9) rfl dX9_steps_175 ?_
                refine lv_iconst (v := 5) hx hb dX9_steps_178 (by decide) ?_
                refine lv_lshl hx hb dX9_steps_179 rfl ?_
                refine lv_topl (fun x32 e_x32 => ?_)
                refine lv_aload_n hx hb dX9_steps_180 rfl (lv_at hl 1 rfl) ?_
                refine lv_aload_n hx hb dX9_steps_181 rfl (lv_at hl 1 rfl) ?_
                refine va_get (D := (dC, dI)) (ci := 8) (v := .int f138_0_8) (C := RX9) (T := TX9) (N := 44) hx hb hts inlX9 hown hK hP 0 rgL2_5ac5f51 rfl 8 (by decide) (hts (.fieldLink RX9 151 "ClosedUntilModel" "to" "I") qw_456) (fun _ h9 => h9) rfl dX9_steps_182 ?_
                have qc0 : (0 : Int32).toInt = 0 := by decide
                have qc4 : (4 : Int32).toInt = 4 := by decide
                have hPc := hP
                have hKc := hK
                refine vp_callSi ((va_runV (As := [.int f138_0_8]) (rest := [.long x32, .ref a0]) ⟨hx, hb, hml, hown, hts⟩ (k_X9_see l dC dI g (a0) (f138_0_8) (a0_0) (a0_1) (a0_2) (a0_3) (a0_4) (a0_5) (a0_6) (f8_0_7) (f138_0_8) (4) (0) (f138_0_11) (a0_12) (a0_13) (a0_14) (a0_15) (a0_16) (a0_17) (a0_18) (a0_19) (a0_20) (a0_21) (a0_22) (a0_23) (a0_24) (a0_25) (a0_26) (a0_27) (a0_28) (a0_29) (a0_30) (a0_31) (a0_32) (a0_33) (a0_34) (a0_35) (a0_36) (a0_37) (a0_38) (a0_39) (a0_40) (a0_41) (a0_42) (a0_43) (a0_4_c) (a0_4_f) (by omega) (by omega) (by omega) (by omega) (by omega) (by omega) (by omega) (by omega)) (cwV 1 hts (gwV qw_458 qw_459 qw_460 qw_386 qw_457) rfl rfl rfl (by decide +kernel) ⟨Nat.le_of_ble_eq_true rfl, Nat.le_of_ble_eq_true rfl⟩) ⟨fun a U g9 mk q => ⟨q.1, q.2.1, va_K.moved (u := U) (U := U.calling g9 mk a) (Vm.Alike.refl U.vm) q.2.2.1, Ev.bl q.2.2.2⟩, va_recv hK hP (ci := 8) (q0 := 0) rfl rgL2_5ac5f51, fun U hU hW => ⟨rfl, atB hU hPc, va_K.moved hW.alike hKc, hE.go hS (fun _ h => h.elim) hU hW⟩⟩ rfl rfl hl.1 rfl (lv_room (Nat.le_of_ble_eq_true rfl)) dX9_steps_185 ⟨Nat.le_of_ble_eq_true rfl, Nat.le_of_ble_eq_true rfl⟩)).run (fun r33 h_r33 => ?_)
                have h_r33 : (-1 ≤ r33.toInt ∧ r33.toInt ≤ 255 ∧ (r33.toInt = -1 ∨ f138_0_8.toInt < a0_6.toInt)) := h_r33
                have b_r33 := i32b r33
                refine lv_i2l hx hb dX9_steps_188 rfl ?_
                refine lv_ldc2 (v := 96) hx hb hown (hts (.constantLong RX9 174 (96)) qw_384) dX9_steps_189 ?_
                refine lv_lsub hx hb dX9_steps_192 ?_
                refine lv_topl (fun x34 e_x34 => ?_)
                refine lv_lor hx hb dX9_steps_193 ?_
                refine lv_topl (fun x35 e_x35 => ?_)
                refine lv_goto (tgt := 201) hx hb dX9_steps_194 (by decide) ?_
                refine va_put (D := (dC, dI)) (ci := 8) (v := .long x35) (ty := .long) (C := RX9) (T := TX9) (N := 44) hx hb hts inlX9 tyX9 tyX9_ok nmX9 hown hK hP hD hS 0 rgL2_5ac5f51 rfl 11 (by decide) (hts (.fieldLink RX9 166 "ClosedUntilModel" "word" "J") qw_422) (fun _ h9 => h9) rfl (by decide +kernel) rfl rfl (Nat.le_of_ble_eq_true rfl) dX9_steps_201 (fun H locs hP9 hD9 hS9 => ?_)
                clear hP hD hS
                obtain ⟨hP, hD⟩ := rgS2_40109d0 (e := (a0, .inr (8, [.int a0_0, .int a0_1, .int a0_2, .int a0_3, .ref a0_4, .int a0_5, .int a0_6, .int f8_0_7, .int f138_0_8, .int 4, .int 0, .long x35, .int a0_12, .int a0_13, .int a0_14, .int a0_15, .int a0_16, .int a0_17, .ref a0_18, .ref a0_19, .ref a0_20, .ref a0_21, .ref a0_22, .ref a0_23, .ref a0_24, .ref a0_25, .ref a0_26, .ref a0_27, .ref a0_28, .ref a0_29, .ref a0_30, .ref a0_31, .ref a0_32, .ref a0_33, .ref a0_34, .ref a0_35, .long a0_36, .int a0_37, .ref a0_38, .ref a0_39, .int a0_40, .ref a0_41, .ref a0_42, .ref a0_43]))) hP9 hD9 rfl
                have hS := hS9; clear hP9 hD9 hS9
                refine lv_aload_n hx hb dX9_steps_204 rfl (lv_at hl 1 rfl) ?_
                refine lv_dup hx hb dX9_steps_205 rfl ?_
                refine va_get (D := (dC, dI)) (ci := 8) (v := .int f138_0_8) (C := RX9) (T := TX9) (N := 44) hx hb hts inlX9 hown hK hP 0 rgL2_5ac5f51 rfl 8 (by decide) (hts (.fieldLink RX9 151 "ClosedUntilModel" "to" "I") qw_456) (fun _ h9 => h9) rfl dX9_steps_206 ?_
                refine lv_iconst (v := 1) hx hb dX9_steps_209 (by decide) ?_
                refine lv_iadd hx hb dX9_steps_210 ?_
                refine lv_topi (fun x36 e_x36 => ?_)
                try have e_x36 := ti_add e_x36 rfl (show (1 : Int32).toInt = 1 by decide) (by omega)
                refine va_put (D := (dC, dI)) (ci := 8) (v := .int x36) (ty := .int) (C := RX9) (T := TX9) (N := 44) hx hb hts inlX9 tyX9 tyX9_ok nmX9 hown hK hP hD hS 0 rgL2_5ac5f51 rfl 8 (by decide) (hts (.fieldLink RX9 151 "ClosedUntilModel" "to" "I") qw_456) (fun _ h9 => h9) rfl (by decide +kernel) rfl rfl (Nat.le_of_ble_eq_true rfl) dX9_steps_211 (fun H locs hP9 hD9 hS9 => ?_)
                clear hP hD hS
                obtain ⟨hP, hD⟩ := rgS2_40109d0 (e := (a0, .inr (8, [.int a0_0, .int a0_1, .int a0_2, .int a0_3, .ref a0_4, .int a0_5, .int a0_6, .int f8_0_7, .int x36, .int 4, .int 0, .long x35, .int a0_12, .int a0_13, .int a0_14, .int a0_15, .int a0_16, .int a0_17, .ref a0_18, .ref a0_19, .ref a0_20, .ref a0_21, .ref a0_22, .ref a0_23, .ref a0_24, .ref a0_25, .ref a0_26, .ref a0_27, .ref a0_28, .ref a0_29, .ref a0_30, .ref a0_31, .ref a0_32, .ref a0_33, .ref a0_34, .ref a0_35, .long a0_36, .int a0_37, .ref a0_38, .ref a0_39, .int a0_40, .ref a0_41, .ref a0_42, .ref a0_43]))) hP9 hD9 rfl
                have hS := hS9; clear hP9 hD9 hS9
                refine lv_goto (tgt := 138) hx hb dX9_steps_214 (by decide) ?_
                exact ih138 ((1000 - x36.toInt).toNat) _ _ _ (by omega) ⟨x36, x35, rfl, (by omega), lv_sub hl [0, 1] rfl, hP, hD, hS⟩
        · have c105_9 : r6.toInt = 59 := (cv_eq rfl (by decide)).mp c105_9
          refine lv_aload_n hx hb dX9_steps_108 rfl (lv_at hl 1 rfl) ?_
          refine lv_iconst (v := 3) hx hb dX9_steps_109 (by decide) ?_
          refine va_put (D := (dC, dI)) (ci := 8) (v := .int 3) (ty := .int) (C := RX9) (T := TX9) (N := 44) hx hb hts inlX9 tyX9 tyX9_ok nmX9 hown hK hP hD hS 0 rgL2_5ac5f51 rfl 9 (by decide) (hts (.fieldLink RX9 160 "ClosedUntilModel" "token" "I") qw_421) (fun _ h9 => h9) rfl (by decide +kernel) rfl rfl (Nat.le_of_ble_eq_true rfl) dX9_steps_110 (fun H locs hP9 hD9 hS9 => ?_)
          clear hP hD hS
          obtain ⟨hP, hD⟩ := rgS2_40109d0 (e := (a0, .inr (8, [.int a0_0, .int a0_1, .int a0_2, .int a0_3, .ref a0_4, .int a0_5, .int a0_6, .int f8_0_7, .int x7, .int 3, .int 0, .long 0, .int a0_12, .int a0_13, .int a0_14, .int a0_15, .int a0_16, .int a0_17, .ref a0_18, .ref a0_19, .ref a0_20, .ref a0_21, .ref a0_22, .ref a0_23, .ref a0_24, .ref a0_25, .ref a0_26, .ref a0_27, .ref a0_28, .ref a0_29, .ref a0_30, .ref a0_31, .ref a0_32, .ref a0_33, .ref a0_34, .ref a0_35, .long a0_36, .int a0_37, .ref a0_38, .ref a0_39, .int a0_40, .ref a0_41, .ref a0_42, .ref a0_43]))) hP9 hD9 rfl
          have hS := hS9; clear hP9 hD9 hS9
          refine lv_goto (tgt := 343) hx hb dX9_steps_113 (by decide) ?_
          have qc0 : (0 : Int32).toInt = 0 := by decide
          have qc3 : (3 : Int32).toInt = 3 := by decide
          refine W.widen (k := 0) (n := 0) (Nat.le_of_ble_eq_true rfl) (Nat.le_of_ble_eq_true rfl) ?_
          have hP9 := hP
          have hD9 := hD
          have hK9 := (rgK1_f3b3254 hK)
          have hf9_0 : (0 ≤ f8_0_7.toInt ∧ f8_0_7.toInt ≤ 1000) := by omega
          have hf9_1 : (0 ≤ x7.toInt ∧ x7.toInt ≤ 1000) := by omega
          exact W.vret hx hb hr (fun t ht hW => ⟨⟨(), rfl, trivial, f8_0_7, x7, 3, 0, 0, hf9_0, hf9_1, atB ht hP9, va_K.moved hW.alike hK9, hD9⟩, hS.F ht⟩) hS.2.2 dX9_steps_343
      · have c83_8 : r6.toInt = (-1) := (cv_eq rfl (by decide)).mp c83_8
        refine lv_aload_n hx hb dX9_steps_86 rfl (lv_at hl 1 rfl) ?_
        refine lv_aload_n hx hb dX9_steps_87 rfl (lv_at hl 1 rfl) ?_
        refine va_get (D := (dC, dI)) (ci := 8) (v := .int f8_0_7) (C := RX9) (T := TX9) (N := 44) hx hb hts inlX9 hown hK hP 0 rgL2_5ac5f51 rfl 7 (by decide) (hts (.fieldLink RX9 154 "ClosedUntilModel" "from" "I") qw_416) (fun _ h9 => h9) rfl dX9_steps_88 ?_
        refine va_put (D := (dC, dI)) (ci := 8) (v := .int f8_0_7) (ty := .int) (C := RX9) (T := TX9) (N := 44) hx hb hts inlX9 tyX9 tyX9_ok nmX9 hown hK hP hD hS 0 rgL2_5ac5f51 rfl 8 (by decide) (hts (.fieldLink RX9 151 "ClosedUntilModel" "to" "I") qw_456) (fun _ h9 => h9) rfl (by decide +kernel) rfl rfl (Nat.le_of_ble_eq_true rfl) dX9_steps_91 (fun H locs hP9 hD9 hS9 => ?_)
        clear hP hD hS
        obtain ⟨hP, hD⟩ := rgS2_40109d0 (e := (a0, .inr (8, [.int a0_0, .int a0_1, .int a0_2, .int a0_3, .ref a0_4, .int a0_5, .int a0_6, .int f8_0_7, .int f8_0_7, .int 4, .int 0, .long 0, .int a0_12, .int a0_13, .int a0_14, .int a0_15, .int a0_16, .int a0_17, .ref a0_18, .ref a0_19, .ref a0_20, .ref a0_21, .ref a0_22, .ref a0_23, .ref a0_24, .ref a0_25, .ref a0_26, .ref a0_27, .ref a0_28, .ref a0_29, .ref a0_30, .ref a0_31, .ref a0_32, .ref a0_33, .ref a0_34, .ref a0_35, .long a0_36, .int a0_37, .ref a0_38, .ref a0_39, .int a0_40, .ref a0_41, .ref a0_42, .ref a0_43]))) hP9 hD9 rfl
        have hS := hS9; clear hP9 hD9 hS9
        refine lv_aload_n hx hb dX9_steps_94 rfl (lv_at hl 1 rfl) ?_
        refine lv_iconst (v := 0) hx hb dX9_steps_95 (by decide) ?_
        refine va_put (D := (dC, dI)) (ci := 8) (v := .int 0) (ty := .int) (C := RX9) (T := TX9) (N := 44) hx hb hts inlX9 tyX9 tyX9_ok nmX9 hown hK hP hD hS 0 rgL2_5ac5f51 rfl 9 (by decide) (hts (.fieldLink RX9 160 "ClosedUntilModel" "token" "I") qw_421) (fun _ h9 => h9) rfl (by decide +kernel) rfl rfl (Nat.le_of_ble_eq_true rfl) dX9_steps_96 (fun H locs hP9 hD9 hS9 => ?_)
        clear hP hD hS
        obtain ⟨hP, hD⟩ := rgS2_40109d0 (e := (a0, .inr (8, [.int a0_0, .int a0_1, .int a0_2, .int a0_3, .ref a0_4, .int a0_5, .int a0_6, .int f8_0_7, .int f8_0_7, .int 0, .int 0, .long 0, .int a0_12, .int a0_13, .int a0_14, .int a0_15, .int a0_16, .int a0_17, .ref a0_18, .ref a0_19, .ref a0_20, .ref a0_21, .ref a0_22, .ref a0_23, .ref a0_24, .ref a0_25, .ref a0_26, .ref a0_27, .ref a0_28, .ref a0_29, .ref a0_30, .ref a0_31, .ref a0_32, .ref a0_33, .ref a0_34, .ref a0_35, .long a0_36, .int a0_37, .ref a0_38, .ref a0_39, .int a0_40, .ref a0_41, .ref a0_42, .ref a0_43]))) hP9 hD9 rfl
        have hS := hS9; clear hP9 hD9 hS9
        refine lv_goto (tgt := 343) hx hb dX9_steps_99 (by decide) ?_
        have qc0 : (0 : Int32).toInt = 0 := by decide
        refine W.widen (k := 0) (n := 0) (Nat.le_of_ble_eq_true rfl) (Nat.le_of_ble_eq_true rfl) ?_
        have hP9 := hP
        have hD9 := hD
        have hK9 := (rgK1_f3b3254 hK)
        have hf9_0 : (0 ≤ f8_0_7.toInt ∧ f8_0_7.toInt ≤ 1000) := by omega
        have hf9_1 : (0 ≤ f8_0_7.toInt ∧ f8_0_7.toInt ≤ 1000) := by omega
        exact W.vret hx hb hr (fun t ht hW => ⟨⟨(), rfl, trivial, f8_0_7, f8_0_7, 0, 0, 0, hf9_0, hf9_1, atB ht hP9, va_K.moved hW.alike hK9, hD9⟩, hS.F ht⟩) hS.2.2 dX9_steps_343
    · have c31_5 : r4.toInt = 10 := (cv_eq rfl (by decide)).mp c31_5
      refine lv_aload_n hx hb dX9_steps_34 rfl (lv_at hl 0 rfl) ?_
      refine lv_dup hx hb dX9_steps_35 rfl ?_
      refine va_get (D := (dC, dI)) (ci := 8) (v := .int f8_0_7) (C := RX9) (T := TX9) (N := 44) hx hb hts inlX9 hown hK hP 0 rgL2_5ac5f51 rfl 7 (by decide) (hts (.fieldLink RX9 154 "ClosedUntilModel" "from" "I") qw_416) (fun _ h9 => h9) rfl dX9_steps_36 ?_
      refine lv_iconst (v := 1) hx hb dX9_steps_39 (by decide) ?_
      refine lv_iadd hx hb dX9_steps_40 ?_
      refine lv_topi (fun x37 e_x37 => ?_)
      try have e_x37 := ti_add e_x37 rfl (show (1 : Int32).toInt = 1 by decide) (by omega)
      refine va_put (D := (dC, dI)) (ci := 8) (v := .int x37) (ty := .int) (C := RX9) (T := TX9) (N := 44) hx hb hts inlX9 tyX9 tyX9_ok nmX9 hown hK hP hD hS 0 rgL2_5ac5f51 rfl 7 (by decide) (hts (.fieldLink RX9 154 "ClosedUntilModel" "from" "I") qw_416) (fun _ h9 => h9) rfl (by decide +kernel) rfl rfl (Nat.le_of_ble_eq_true rfl) dX9_steps_41 (fun H locs hP9 hD9 hS9 => ?_)
      clear hP hD hS
      obtain ⟨hP, hD⟩ := rgS2_40109d0 (e := (a0, .inr (8, [.int a0_0, .int a0_1, .int a0_2, .int a0_3, .ref a0_4, .int a0_5, .int a0_6, .int x37, .int a0_8, .int a0_9, .int a0_10, .long a0_11, .int a0_12, .int a0_13, .int a0_14, .int a0_15, .int a0_16, .int a0_17, .ref a0_18, .ref a0_19, .ref a0_20, .ref a0_21, .ref a0_22, .ref a0_23, .ref a0_24, .ref a0_25, .ref a0_26, .ref a0_27, .ref a0_28, .ref a0_29, .ref a0_30, .ref a0_31, .ref a0_32, .ref a0_33, .ref a0_34, .ref a0_35, .long a0_36, .int a0_37, .ref a0_38, .ref a0_39, .int a0_40, .ref a0_41, .ref a0_42, .ref a0_43]))) hP9 hD9 rfl
      have hS := hS9; clear hP9 hD9 hS9
      refine lv_goto (tgt := 8) hx hb dX9_steps_44 (by decide) ?_
      exact ih8 ((1000 - x37.toInt).toNat) _ _ _ (by omega) ⟨x37, rfl, (by omega), lv_sub hl [0] rfl, hP, hD, hS⟩
set_option maxHeartbeats 4000000 in
set_option maxRecDepth 100000 in
theorem k_X9_takes (l : Launch) (dC : Nat → ClassId) (dI : Nat → Nat → Nat) (g : Gv) (sz : Nat) (a0 : Nat) (sk : Nat) (a0_0 : Int32) (a0_1 : Int32) (a0_2 : Int32) (a0_3 : Int32) (a0_4 : Nat) (a0_5 : Int32) (a0_6 : Int32) (a0_7 : Int32) (a0_8 : Int32) (a0_9 : Int32) (a0_10 : Int32) (a0_11 : Int64) (a0_12 : Int32) (a0_13 : Int32) (a0_14 : Int32) (a0_15 : Int32) (a0_16 : Int32) (a0_17 : Int32) (a0_18 : Nat) (a0_19 : Nat) (a0_20 : Nat) (a0_21 : Nat) (a0_22 : Nat) (a0_23 : Nat) (a0_24 : Nat) (a0_25 : Nat) (a0_26 : Nat) (a0_27 : Nat) (a0_28 : Nat) (a0_29 : Nat) (a0_30 : Nat) (a0_31 : Nat) (a0_32 : Nat) (a0_33 : Nat) (a0_34 : Nat) (a0_35 : Nat) (a0_36 : Int64) (a0_37 : Int32) (a0_38 : Nat) (a0_39 : Nat) (a0_40 : Int32) (a0_41 : Nat) (a0_42 : Nat) (a0_43 : Nat) (a0_4_c : ClassId) (a0_4_f : Nat → Int32) (h_a0_5 : 0 ≤ a0_5.toInt ∧ a0_5.toInt ≤ 1000) (h_a0_6 : 0 ≤ a0_6.toInt ∧ a0_6.toInt ≤ 1000) (h_a0_7 : 0 ≤ a0_7.toInt ∧ a0_7.toInt ≤ 1000) (h_a0_8 : 0 ≤ a0_8.toInt ∧ a0_8.toInt ≤ 1000) (h_a0_17 : 0 ≤ a0_17.toInt ∧ a0_17.toInt ≤ 1) (h_a0_37 : (-1) ≤ a0_37.toInt ∧ a0_37.toInt ≤ 23) (h_a0_40 : 0 ≤ a0_40.toInt ∧ a0_40.toInt ≤ 12) (hsk : sk < 12) : Met l yX9_takes (.code yX9_takes cX9_takes 2 (some .boolean) :: TBL) ({ frames := 6, cells := 0, slots := 0, locals := 204 }) (va_Pc [.ref a0, .ref (g.2.2.2.2.2.1 sk)] (fun U => U.heap.size = sz ∧ va_P (dC, dI) vwCl [(a0, .inr (8, [.int a0_0, .int a0_1, .int a0_2, .int a0_3, .ref a0_4, .int a0_5, .int a0_6, .int a0_7, .int a0_8, .int a0_9, .int a0_10, .long a0_11, .int a0_12, .int a0_13, .int a0_14, .int a0_15, .int a0_16, .int a0_17, .ref a0_18, .ref a0_19, .ref a0_20, .ref a0_21, .ref a0_22, .ref a0_23, .ref a0_24, .ref a0_25, .ref a0_26, .ref a0_27, .ref a0_28, .ref a0_29, .ref a0_30, .ref a0_31, .ref a0_32, .ref a0_33, .ref a0_34, .ref a0_35, .long a0_36, .int a0_37, .ref a0_38, .ref a0_39, .int a0_40, .ref a0_41, .ref a0_42, .ref a0_43])), (a0_4, .inl (a0_4_c, 1000, .inl a0_4_f))] U.heap ∧ va_K (dC, dI) vwCl [(a0_4_c, .byte)] U ∧ va_D (fun _ => True) [(a0, .inr (8, [.int a0_0, .int a0_1, .int a0_2, .int a0_3, .ref a0_4, .int a0_5, .int a0_6, .int a0_7, .int a0_8, .int a0_9, .int a0_10, .long a0_11, .int a0_12, .int a0_13, .int a0_14, .int a0_15, .int a0_16, .int a0_17, .ref a0_18, .ref a0_19, .ref a0_20, .ref a0_21, .ref a0_22, .ref a0_23, .ref a0_24, .ref a0_25, .ref a0_26, .ref a0_27, .ref a0_28, .ref a0_29, .ref a0_30, .ref a0_31, .ref a0_32, .ref a0_33, .ref a0_34, .ref a0_35, .long a0_36, .int a0_37, .ref a0_38, .ref a0_39, .int a0_40, .ref a0_41, .ref a0_42, .ref a0_43])), (a0_4, .inl (a0_4_c, 1000, .inl a0_4_f))] ∧ Ev g (va_A [(a0, .inr (8, [.int a0_0, .int a0_1, .int a0_2, .int a0_3, .ref a0_4, .int a0_5, .int a0_6, .int a0_7, .int a0_8, .int a0_9, .int a0_10, .long a0_11, .int a0_12, .int a0_13, .int a0_14, .int a0_15, .int a0_16, .int a0_17, .ref a0_18, .ref a0_19, .ref a0_20, .ref a0_21, .ref a0_22, .ref a0_23, .ref a0_24, .ref a0_25, .ref a0_26, .ref a0_27, .ref a0_28, .ref a0_29, .ref a0_30, .ref a0_31, .ref a0_32, .ref a0_33, .ref a0_34, .ref a0_35, .long a0_36, .int a0_37, .ref a0_38, .ref a0_39, .int a0_40, .ref a0_41, .ref a0_42, .ref a0_43])), (a0_4, .inl (a0_4_c, 1000, .inl a0_4_f))] sz) U)) (va_Qi (fun (r : Int32) (u : Int32) => u = r) (fun (u : Int32) (t : State) => ∃ (za0_7 : Int32) (za0_8 : Int32) (za0_9 : Int32) (za0_10 : Int32) (za0_11 : Int64), (0 ≤ za0_7.toInt ∧ za0_7.toInt ≤ 1000) ∧ (0 ≤ za0_8.toInt ∧ za0_8.toInt ≤ 1000) ∧ (u = 0 ∨ u = 1) ∧ va_P (dC, dI) vwCl [(a0, .inr (8, [.int a0_0, .int a0_1, .int a0_2, .int a0_3, .ref a0_4, .int a0_5, .int a0_6, .int za0_7, .int za0_8, .int za0_9, .int za0_10, .long za0_11, .int a0_12, .int a0_13, .int a0_14, .int a0_15, .int a0_16, .int a0_17, .ref a0_18, .ref a0_19, .ref a0_20, .ref a0_21, .ref a0_22, .ref a0_23, .ref a0_24, .ref a0_25, .ref a0_26, .ref a0_27, .ref a0_28, .ref a0_29, .ref a0_30, .ref a0_31, .ref a0_32, .ref a0_33, .ref a0_34, .ref a0_35, .long a0_36, .int a0_37, .ref a0_38, .ref a0_39, .int a0_40, .ref a0_41, .ref a0_42, .ref a0_43])), (a0_4, .inl (a0_4_c, 1000, .inl a0_4_f))] t.heap ∧ va_K (dC, dI) vwCl [] t ∧ va_D (va_A [(a0, .inr (8, [.int a0_0, .int a0_1, .int a0_2, .int a0_3, .ref a0_4, .int a0_5, .int a0_6, .int a0_7, .int a0_8, .int a0_9, .int a0_10, .long a0_11, .int a0_12, .int a0_13, .int a0_14, .int a0_15, .int a0_16, .int a0_17, .ref a0_18, .ref a0_19, .ref a0_20, .ref a0_21, .ref a0_22, .ref a0_23, .ref a0_24, .ref a0_25, .ref a0_26, .ref a0_27, .ref a0_28, .ref a0_29, .ref a0_30, .ref a0_31, .ref a0_32, .ref a0_33, .ref a0_34, .ref a0_35, .long a0_36, .int a0_37, .ref a0_38, .ref a0_39, .int a0_40, .ref a0_41, .ref a0_42, .ref a0_43])), (a0_4, .inl (a0_4_c, 1000, .inl a0_4_f))] sz) [(a0, .inr (8, [.int a0_0, .int a0_1, .int a0_2, .int a0_3, .ref a0_4, .int a0_5, .int a0_6, .int za0_7, .int za0_8, .int za0_9, .int za0_10, .long za0_11, .int a0_12, .int a0_13, .int a0_14, .int a0_15, .int a0_16, .int a0_17, .ref a0_18, .ref a0_19, .ref a0_20, .ref a0_21, .ref a0_22, .ref a0_23, .ref a0_24, .ref a0_25, .ref a0_26, .ref a0_27, .ref a0_28, .ref a0_29, .ref a0_30, .ref a0_31, .ref a0_32, .ref a0_33, .ref a0_34, .ref a0_35, .long a0_36, .int a0_37, .ref a0_38, .ref a0_39, .int a0_40, .ref a0_41, .ref a0_42, .ref a0_43])), (a0_4, .inl (a0_4_c, 1000, .inl a0_4_f))]) (va_A [(a0, .inr (8, [.int a0_0, .int a0_1, .int a0_2, .int a0_3, .ref a0_4, .int a0_5, .int a0_6, .int a0_7, .int a0_8, .int a0_9, .int a0_10, .long a0_11, .int a0_12, .int a0_13, .int a0_14, .int a0_15, .int a0_16, .int a0_17, .ref a0_18, .ref a0_19, .ref a0_20, .ref a0_21, .ref a0_22, .ref a0_23, .ref a0_24, .ref a0_25, .ref a0_26, .ref a0_27, .ref a0_28, .ref a0_29, .ref a0_30, .ref a0_31, .ref a0_32, .ref a0_33, .ref a0_34, .ref a0_35, .long a0_36, .int a0_37, .ref a0_38, .ref a0_39, .int a0_40, .ref a0_41, .ref a0_42, .ref a0_43])), (a0_4, .inl (a0_4_c, 1000, .inl a0_4_f))] sz)) 0 0 (va_A [(a0, .inr (8, [.int a0_0, .int a0_1, .int a0_2, .int a0_3, .ref a0_4, .int a0_5, .int a0_6, .int a0_7, .int a0_8, .int a0_9, .int a0_10, .long a0_11, .int a0_12, .int a0_13, .int a0_14, .int a0_15, .int a0_16, .int a0_17, .ref a0_18, .ref a0_19, .ref a0_20, .ref a0_21, .ref a0_22, .ref a0_23, .ref a0_24, .ref a0_25, .ref a0_26, .ref a0_27, .ref a0_28, .ref a0_29, .ref a0_30, .ref a0_31, .ref a0_32, .ref a0_33, .ref a0_34, .ref a0_35, .long a0_36, .int a0_37, .ref a0_38, .ref a0_39, .int a0_40, .ref a0_41, .ref a0_42, .ref a0_43])), (a0_4, .inl (a0_4_c, 1000, .inl a0_4_f))] sz) := by
  refine Met.ofW (cc := cX9_takes) (maxL := 2) (ret := (some .boolean)) (by decide) rfl ?_
  intro p e s m args below meth c s₁ B hml hv
  obtain ⟨rfl, hsz, hP, hK, hD0, hE⟩ := hv
  have hx := B.exec
  have hb := B.bytes
  have hr := B.returns
  have hts0 := atoms_spec (ws := (.code yX9_takes cX9_takes 2 (some .boolean) :: TBL)) B.pre
  have hts := fun (w : Cond) (h : w ∈ TBL) => hts0 w (List.mem_cons_of_mem _ h)
  have hown : s.vm.findClass RX9 = some m.cls := findClass_of_methodNamed B.named
  have hlocks := B.notSynchronized
  have hN := hE.1
  subst hsz
  have hD := hD0.self (sz := s.heap.size)
  generalize hAe : va_A [(a0, .inr (8, [.int a0_0, .int a0_1, .int a0_2, .int a0_3, .ref a0_4, .int a0_5, .int a0_6, .int a0_7, .int a0_8, .int a0_9, .int a0_10, .long a0_11, .int a0_12, .int a0_13, .int a0_14, .int a0_15, .int a0_16, .int a0_17, .ref a0_18, .ref a0_19, .ref a0_20, .ref a0_21, .ref a0_22, .ref a0_23, .ref a0_24, .ref a0_25, .ref a0_26, .ref a0_27, .ref a0_28, .ref a0_29, .ref a0_30, .ref a0_31, .ref a0_32, .ref a0_33, .ref a0_34, .ref a0_35, .long a0_36, .int a0_37, .ref a0_38, .ref a0_39, .int a0_40, .ref a0_41, .ref a0_42, .ref a0_43])), (a0_4, .inl (a0_4_c, 1000, .inl a0_4_f))] s.heap.size = A at hD hE ⊢
  have hA : ∀ q : Nat, s.heap.size ≤ q → A q := fun q h => by rw [← hAe]; exact Or.inr h
  have hS : va_S A s.heap s.heap [] := va_S.rf
  replace hP : va_P (dC, dI) vwCl [(a0, .inr (8, [.int a0_0, .int a0_1, .int a0_2, .int a0_3, .ref a0_4, .int a0_5, .int a0_6, .int a0_7, .int a0_8, .int a0_9, .int a0_10, .long a0_11, .int a0_12, .int a0_13, .int a0_14, .int a0_15, .int a0_16, .int a0_17, .ref a0_18, .ref a0_19, .ref a0_20, .ref a0_21, .ref a0_22, .ref a0_23, .ref a0_24, .ref a0_25, .ref a0_26, .ref a0_27, .ref a0_28, .ref a0_29, .ref a0_30, .ref a0_31, .ref a0_32, .ref a0_33, .ref a0_34, .ref a0_35, .long a0_36, .int a0_37, .ref a0_38, .ref a0_39, .int a0_40, .ref a0_41, .ref a0_42, .ref a0_43])), (a0_4, .inl (a0_4_c, 1000, .inl a0_4_f))] s.heap := hP
  have hl := lv_entry ([.ref a0, .ref (g.2.2.2.2.2.1 sk)]) (n := 2) (Nat.le_of_ble_eq_true rfl)
  rw [lg_entry_eq]
  generalize (lg_sl ([.ref a0, .ref (g.2.2.2.2.2.1 sk)]) ++ List.replicate (2 - (lg_sl ([.ref a0, .ref (g.2.2.2.2.2.1 sk)])).length) Slot.unset).toArray = ls at hl ⊢
  have hl : lv_has ls 2 [(0, .ref a0), (1, .ref (g.2.2.2.2.2.1 sk))] := hl
  have b_a0_0 := i32b a0_0
  have b_a0_1 := i32b a0_1
  have b_a0_2 := i32b a0_2
  have b_a0_3 := i32b a0_3
  have b_a0_9 := i32b a0_9
  have b_a0_10 := i32b a0_10
  have b_a0_12 := i32b a0_12
  have b_a0_13 := i32b a0_13
  have b_a0_14 := i32b a0_14
  have b_a0_15 := i32b a0_15
  have b_a0_16 := i32b a0_16
  refine lv_aload_n hx hb dX9_takes_0 rfl (lv_at hl 0 rfl) ?_
  refine lv_aload_n hx hb dX9_takes_1 rfl (lv_at hl 1 rfl) ?_
  have hPc := (rgP2_30027b6 hP)
  have hKc := (rgK1_f3b3254 hK)
  refine vp_callSi ((va_runV (As := [.ref (g.2.2.2.2.2.1 sk)]) (rest := []) ⟨hx, hb, hml, hown, hts⟩ (k_X9_is l dC dI g (a0) (sk) (a0_0) (a0_1) (a0_2) (a0_3) (a0_4) (a0_5) (a0_6) (a0_7) (a0_8) (a0_9) (a0_10) (a0_11) (a0_12) (a0_13) (a0_14) (a0_15) (a0_16) (a0_17) (a0_18) (a0_19) (a0_20) (a0_21) (a0_22) (a0_23) (a0_24) (a0_25) (a0_26) (a0_27) (a0_28) (a0_29) (a0_30) (a0_31) (a0_32) (a0_33) (a0_34) (a0_35) (a0_36) (a0_37) (a0_38) (a0_39) (a0_40) (a0_41) (a0_42) (a0_43) (by omega) (by omega) (by omega) (by omega) (by omega) (by omega) (by omega) (by first | assumption | decide)) (cwV 1 hts (gwV qw_427 qw_428 qw_429 qw_386 qw_426) rfl rfl rfl (by decide +kernel) ⟨Nat.le_of_ble_eq_true rfl, Nat.le_of_ble_eq_true rfl⟩) ⟨fun a U g9 mk q => ⟨q.1, q.2.1, va_K.moved (u := U) (U := U.calling g9 mk a) (Vm.Alike.refl U.vm) q.2.2.1, Ev.bl q.2.2.2⟩, va_recv hK hP (ci := 8) (q0 := 0) rfl rgL2_5ac5f51, fun U hU hW => ⟨rfl, atB hU hPc, va_K.moved hW.alike hKc, hE.go hS (fun _ h => h.elim) hU hW⟩⟩ rfl rfl hl.1 rfl (lv_room (Nat.le_of_ble_eq_true rfl)) dX9_takes_2 ⟨Nat.le_of_ble_eq_true rfl, Nat.le_of_ble_eq_true rfl⟩)).run (fun r1 h_r1 => ?_)
  have h_r1 : (r1 = 0 ∨ r1 = 1) := h_r1
  have b_r1 := z01 (show r1 = 0 ∨ r1 = 1 from h_r1)
  refine lv_if_ne (tgt := 10) hx hb dX9_takes_5 (by decide) (fun c5_2 => ?_) (fun c5_2 => ?_)
  · have c5_2 : ¬ (r1.toInt = 0) := mt (cv_eq rfl (by decide)).mpr c5_2
    refine lv_aload_n hx hb dX9_takes_10 rfl (lv_at hl 0 rfl) ?_
    have hPc := hP
    have hKc := hK
    have hDc := hD
    have hFc := freeW hDc hS hA
    refine va_callv (va_runV (As := []) (rest := []) ⟨hx, hb, hml, hown, hts⟩ (k_X9_steps l dC dI g s.heap.size (a0) (a0_0) (a0_1) (a0_2) (a0_3) (a0_4) (a0_5) (a0_6) (a0_7) (a0_8) (a0_9) (a0_10) (a0_11) (a0_12) (a0_13) (a0_14) (a0_15) (a0_16) (a0_17) (a0_18) (a0_19) (a0_20) (a0_21) (a0_22) (a0_23) (a0_24) (a0_25) (a0_26) (a0_27) (a0_28) (a0_29) (a0_30) (a0_31) (a0_32) (a0_33) (a0_34) (a0_35) (a0_36) (a0_37) (a0_38) (a0_39) (a0_40) (a0_41) (a0_42) (a0_43) (a0_4_c) (a0_4_f) (by omega) (by omega) (by omega) (by omega) (by omega) (by omega) (by omega)) (cwV 0 hts (gwV qw_468 qw_469 qw_470 qw_386 qw_467) rfl rfl rfl (by decide +kernel) ⟨Nat.le_of_ble_eq_true rfl, Nat.le_of_ble_eq_true rfl⟩) ⟨fun a U g9 mk q => ⟨q.1, q.2.1, q.2.2.1, va_K.moved (u := U) (U := U.calling g9 mk a) (Vm.Alike.refl U.vm) q.2.2.2.1, q.2.2.2.2.1, Ev.bl q.2.2.2.2.2⟩, va_recv hK hP (ci := 8) (q0 := 0) rfl rgL2_5ac5f51, fun U hU hW => ⟨rfl, by rw [hU], atB hU hPc, va_K.moved hW.alike hKc, hDc.weaken (fun _ _ _ _ => trivial), hE.go hS hFc hU hW⟩⟩ rfl rfl hl.1 rfl (lv_room (Nat.le_of_ble_eq_true rfl)) dX9_takes_11 ⟨Nat.le_of_ble_eq_true rfl, Nat.le_of_ble_eq_true rfl⟩) hS (fun q _ h => hFc q h) hFc (fun u3 t H1 locs ht hvm h_u3 hB hz1 hk1 hS => ?_)
    obtain ⟨za0_7_5, za0_8_6, za0_9_7, za0_10_8, za0_11_9, hF10, hF11, hP1, hK1, hD1⟩ := hB
    have hK1 := va_K.moved hvm.symm hK1
    have hJ9 := rgJ2_9775942 hP hD hk1 hFc (atH ht hP1) hD1
    clear hP hD hPc hKc hDc hFc hP1 hD1 hk1 hz1
    obtain ⟨hP, hD⟩ := hJ9
    clear hK1
    generalize H1 = H at hP hS ⊢
    refine W.widen (k := 0) (n := 0) (Nat.le_of_ble_eq_true rfl) (Nat.le_of_ble_eq_true rfl) ?_
    refine lv_iconst (v := 1) hx hb dX9_takes_14 (by decide) ?_
    have qc1 : (1 : Int32).toInt = 1 := by decide
    refine W.widen (k := 0) (n := 0) (Nat.le_of_ble_eq_true rfl) (Nat.le_of_ble_eq_true rfl) ?_
    have hP9 := hP
    have hD9 := hD
    have hK9 := (rgK1_f3b3254 hK)
    have hf9_0 : (0 ≤ za0_7_5.toInt ∧ za0_7_5.toInt ≤ 1000) := by omega
    have hf9_1 : (0 ≤ za0_8_6.toInt ∧ za0_8_6.toInt ≤ 1000) := by omega
    have hf9_2 : ((1 : Int32) = 0 ∨ (1 : Int32) = 1) := (by decide)
    exact W.zret (v := 1) hx hb hr rfl (fun t ht hW => ⟨⟨1, 1, rfl, rfl, za0_7_5, za0_8_6, za0_9_7, za0_10_8, za0_11_9, hf9_0, hf9_1, hf9_2, atB ht hP9, va_K.moved hW.alike hK9, hD9⟩, hS.F ht⟩) hS.2.2 dX9_takes_15
  · have c5_2 : r1.toInt = 0 := (cv_eq rfl (by decide)).mp c5_2
    refine lv_iconst (v := 0) hx hb dX9_takes_8 (by decide) ?_
    have qc0 : (0 : Int32).toInt = 0 := by decide
    refine W.widen (k := 0) (n := 0) (Nat.le_of_ble_eq_true rfl) (Nat.le_of_ble_eq_true rfl) ?_
    have hP9 := hP
    have hD9 := hD
    have hK9 := (rgK1_f3b3254 hK)
    have hf9_0 : (0 ≤ a0_7.toInt ∧ a0_7.toInt ≤ 1000) := by omega
    have hf9_1 : (0 ≤ a0_8.toInt ∧ a0_8.toInt ≤ 1000) := by omega
    have hf9_2 : ((0 : Int32) = 0 ∨ (0 : Int32) = 1) := (by decide)
    exact W.zret (v := 0) hx hb hr rfl (fun t ht hW => ⟨⟨0, 0, rfl, rfl, a0_7, a0_8, a0_9, a0_10, a0_11, hf9_0, hf9_1, hf9_2, atB ht hP9, va_K.moved hW.alike hK9, hD9⟩, hS.F ht⟩) hS.2.2 dX9_takes_9
set_option maxHeartbeats 4000000 in
set_option maxRecDepth 100000 in
theorem k_X9_takesNumber (l : Launch) (dC : Nat → ClassId) (dI : Nat → Nat → Nat) (g : Gv) (sz : Nat) (a0 : Nat) (a1 : Int32) (a2 : Int32) (a0_0 : Int32) (a0_1 : Int32) (a0_2 : Int32) (a0_3 : Int32) (a0_4 : Nat) (a0_5 : Int32) (a0_6 : Int32) (a0_7 : Int32) (a0_8 : Int32) (a0_9 : Int32) (a0_10 : Int32) (a0_11 : Int64) (a0_12 : Int32) (a0_13 : Int32) (a0_14 : Int32) (a0_15 : Int32) (a0_16 : Int32) (a0_17 : Int32) (a0_18 : Nat) (a0_19 : Nat) (a0_20 : Nat) (a0_21 : Nat) (a0_22 : Nat) (a0_23 : Nat) (a0_24 : Nat) (a0_25 : Nat) (a0_26 : Nat) (a0_27 : Nat) (a0_28 : Nat) (a0_29 : Nat) (a0_30 : Nat) (a0_31 : Nat) (a0_32 : Nat) (a0_33 : Nat) (a0_34 : Nat) (a0_35 : Nat) (a0_36 : Int64) (a0_37 : Int32) (a0_38 : Nat) (a0_39 : Nat) (a0_40 : Int32) (a0_41 : Nat) (a0_42 : Nat) (a0_43 : Nat) (a0_4_c : ClassId) (a0_4_f : Nat → Int32) (h_a0_5 : 0 ≤ a0_5.toInt ∧ a0_5.toInt ≤ 1000) (h_a0_6 : 0 ≤ a0_6.toInt ∧ a0_6.toInt ≤ 1000) (h_a0_7 : 0 ≤ a0_7.toInt ∧ a0_7.toInt ≤ 1000) (h_a0_8 : 0 ≤ a0_8.toInt ∧ a0_8.toInt ≤ 1000) (h_a0_17 : 0 ≤ a0_17.toInt ∧ a0_17.toInt ≤ 1) (h_a0_37 : (-1) ≤ a0_37.toInt ∧ a0_37.toInt ≤ 23) (h_a0_40 : 0 ≤ a0_40.toInt ∧ a0_40.toInt ≤ 12) : Met l yX9_takesNumber (.code yX9_takesNumber cX9_takesNumber 3 (some .boolean) :: TBL) ({ frames := 2, cells := 0, slots := 0, locals := 46 }) (va_Pc [.ref a0, .int a1, .int a2] (fun U => U.heap.size = sz ∧ va_P (dC, dI) vwCl [(a0, .inr (8, [.int a0_0, .int a0_1, .int a0_2, .int a0_3, .ref a0_4, .int a0_5, .int a0_6, .int a0_7, .int a0_8, .int a0_9, .int a0_10, .long a0_11, .int a0_12, .int a0_13, .int a0_14, .int a0_15, .int a0_16, .int a0_17, .ref a0_18, .ref a0_19, .ref a0_20, .ref a0_21, .ref a0_22, .ref a0_23, .ref a0_24, .ref a0_25, .ref a0_26, .ref a0_27, .ref a0_28, .ref a0_29, .ref a0_30, .ref a0_31, .ref a0_32, .ref a0_33, .ref a0_34, .ref a0_35, .long a0_36, .int a0_37, .ref a0_38, .ref a0_39, .int a0_40, .ref a0_41, .ref a0_42, .ref a0_43])), (a0_4, .inl (a0_4_c, 1000, .inl a0_4_f))] U.heap ∧ va_K (dC, dI) vwCl [(a0_4_c, .byte)] U ∧ va_D (fun _ => True) [(a0, .inr (8, [.int a0_0, .int a0_1, .int a0_2, .int a0_3, .ref a0_4, .int a0_5, .int a0_6, .int a0_7, .int a0_8, .int a0_9, .int a0_10, .long a0_11, .int a0_12, .int a0_13, .int a0_14, .int a0_15, .int a0_16, .int a0_17, .ref a0_18, .ref a0_19, .ref a0_20, .ref a0_21, .ref a0_22, .ref a0_23, .ref a0_24, .ref a0_25, .ref a0_26, .ref a0_27, .ref a0_28, .ref a0_29, .ref a0_30, .ref a0_31, .ref a0_32, .ref a0_33, .ref a0_34, .ref a0_35, .long a0_36, .int a0_37, .ref a0_38, .ref a0_39, .int a0_40, .ref a0_41, .ref a0_42, .ref a0_43])), (a0_4, .inl (a0_4_c, 1000, .inl a0_4_f))] ∧ Ev g (va_A [(a0, .inr (8, [.int a0_0, .int a0_1, .int a0_2, .int a0_3, .ref a0_4, .int a0_5, .int a0_6, .int a0_7, .int a0_8, .int a0_9, .int a0_10, .long a0_11, .int a0_12, .int a0_13, .int a0_14, .int a0_15, .int a0_16, .int a0_17, .ref a0_18, .ref a0_19, .ref a0_20, .ref a0_21, .ref a0_22, .ref a0_23, .ref a0_24, .ref a0_25, .ref a0_26, .ref a0_27, .ref a0_28, .ref a0_29, .ref a0_30, .ref a0_31, .ref a0_32, .ref a0_33, .ref a0_34, .ref a0_35, .long a0_36, .int a0_37, .ref a0_38, .ref a0_39, .int a0_40, .ref a0_41, .ref a0_42, .ref a0_43])), (a0_4, .inl (a0_4_c, 1000, .inl a0_4_f))] sz) U)) (va_Qi (fun (r : Int32) (u : Int32) => u = r) (fun (u : Int32) (t : State) => ∃ (za0_7 : Int32) (za0_8 : Int32) (za0_9 : Int32) (za0_10 : Int32) (za0_11 : Int64) (za0_12 : Int32) (za0_13 : Int32) (za0_14 : Int32), (0 ≤ za0_7.toInt ∧ za0_7.toInt ≤ 1000) ∧ (0 ≤ za0_8.toInt ∧ za0_8.toInt ≤ 1000) ∧ (u = 0 ∨ u = 1) ∧ va_P (dC, dI) vwCl [(a0, .inr (8, [.int a0_0, .int a0_1, .int a0_2, .int a0_3, .ref a0_4, .int a0_5, .int a0_6, .int za0_7, .int za0_8, .int za0_9, .int za0_10, .long za0_11, .int za0_12, .int za0_13, .int za0_14, .int a0_15, .int a0_16, .int a0_17, .ref a0_18, .ref a0_19, .ref a0_20, .ref a0_21, .ref a0_22, .ref a0_23, .ref a0_24, .ref a0_25, .ref a0_26, .ref a0_27, .ref a0_28, .ref a0_29, .ref a0_30, .ref a0_31, .ref a0_32, .ref a0_33, .ref a0_34, .ref a0_35, .long a0_36, .int a0_37, .ref a0_38, .ref a0_39, .int a0_40, .ref a0_41, .ref a0_42, .ref a0_43])), (a0_4, .inl (a0_4_c, 1000, .inl a0_4_f))] t.heap ∧ va_K (dC, dI) vwCl [] t ∧ va_D (va_A [(a0, .inr (8, [.int a0_0, .int a0_1, .int a0_2, .int a0_3, .ref a0_4, .int a0_5, .int a0_6, .int a0_7, .int a0_8, .int a0_9, .int a0_10, .long a0_11, .int a0_12, .int a0_13, .int a0_14, .int a0_15, .int a0_16, .int a0_17, .ref a0_18, .ref a0_19, .ref a0_20, .ref a0_21, .ref a0_22, .ref a0_23, .ref a0_24, .ref a0_25, .ref a0_26, .ref a0_27, .ref a0_28, .ref a0_29, .ref a0_30, .ref a0_31, .ref a0_32, .ref a0_33, .ref a0_34, .ref a0_35, .long a0_36, .int a0_37, .ref a0_38, .ref a0_39, .int a0_40, .ref a0_41, .ref a0_42, .ref a0_43])), (a0_4, .inl (a0_4_c, 1000, .inl a0_4_f))] sz) [(a0, .inr (8, [.int a0_0, .int a0_1, .int a0_2, .int a0_3, .ref a0_4, .int a0_5, .int a0_6, .int za0_7, .int za0_8, .int za0_9, .int za0_10, .long za0_11, .int za0_12, .int za0_13, .int za0_14, .int a0_15, .int a0_16, .int a0_17, .ref a0_18, .ref a0_19, .ref a0_20, .ref a0_21, .ref a0_22, .ref a0_23, .ref a0_24, .ref a0_25, .ref a0_26, .ref a0_27, .ref a0_28, .ref a0_29, .ref a0_30, .ref a0_31, .ref a0_32, .ref a0_33, .ref a0_34, .ref a0_35, .long a0_36, .int a0_37, .ref a0_38, .ref a0_39, .int a0_40, .ref a0_41, .ref a0_42, .ref a0_43])), (a0_4, .inl (a0_4_c, 1000, .inl a0_4_f))]) (va_A [(a0, .inr (8, [.int a0_0, .int a0_1, .int a0_2, .int a0_3, .ref a0_4, .int a0_5, .int a0_6, .int a0_7, .int a0_8, .int a0_9, .int a0_10, .long a0_11, .int a0_12, .int a0_13, .int a0_14, .int a0_15, .int a0_16, .int a0_17, .ref a0_18, .ref a0_19, .ref a0_20, .ref a0_21, .ref a0_22, .ref a0_23, .ref a0_24, .ref a0_25, .ref a0_26, .ref a0_27, .ref a0_28, .ref a0_29, .ref a0_30, .ref a0_31, .ref a0_32, .ref a0_33, .ref a0_34, .ref a0_35, .long a0_36, .int a0_37, .ref a0_38, .ref a0_39, .int a0_40, .ref a0_41, .ref a0_42, .ref a0_43])), (a0_4, .inl (a0_4_c, 1000, .inl a0_4_f))] sz)) 0 0 (va_A [(a0, .inr (8, [.int a0_0, .int a0_1, .int a0_2, .int a0_3, .ref a0_4, .int a0_5, .int a0_6, .int a0_7, .int a0_8, .int a0_9, .int a0_10, .long a0_11, .int a0_12, .int a0_13, .int a0_14, .int a0_15, .int a0_16, .int a0_17, .ref a0_18, .ref a0_19, .ref a0_20, .ref a0_21, .ref a0_22, .ref a0_23, .ref a0_24, .ref a0_25, .ref a0_26, .ref a0_27, .ref a0_28, .ref a0_29, .ref a0_30, .ref a0_31, .ref a0_32, .ref a0_33, .ref a0_34, .ref a0_35, .long a0_36, .int a0_37, .ref a0_38, .ref a0_39, .int a0_40, .ref a0_41, .ref a0_42, .ref a0_43])), (a0_4, .inl (a0_4_c, 1000, .inl a0_4_f))] sz) := by
  refine Met.ofW (cc := cX9_takesNumber) (maxL := 3) (ret := (some .boolean)) (by decide) rfl ?_
  intro p e s m args below meth c s₁ B hml hv
  obtain ⟨rfl, hsz, hP, hK, hD0, hE⟩ := hv
  have hx := B.exec
  have hb := B.bytes
  have hr := B.returns
  have hts0 := atoms_spec (ws := (.code yX9_takesNumber cX9_takesNumber 3 (some .boolean) :: TBL)) B.pre
  have hts := fun (w : Cond) (h : w ∈ TBL) => hts0 w (List.mem_cons_of_mem _ h)
  have hown : s.vm.findClass RX9 = some m.cls := findClass_of_methodNamed B.named
  have hlocks := B.notSynchronized
  have hN := hE.1
  subst hsz
  have hD := hD0.self (sz := s.heap.size)
  generalize hAe : va_A [(a0, .inr (8, [.int a0_0, .int a0_1, .int a0_2, .int a0_3, .ref a0_4, .int a0_5, .int a0_6, .int a0_7, .int a0_8, .int a0_9, .int a0_10, .long a0_11, .int a0_12, .int a0_13, .int a0_14, .int a0_15, .int a0_16, .int a0_17, .ref a0_18, .ref a0_19, .ref a0_20, .ref a0_21, .ref a0_22, .ref a0_23, .ref a0_24, .ref a0_25, .ref a0_26, .ref a0_27, .ref a0_28, .ref a0_29, .ref a0_30, .ref a0_31, .ref a0_32, .ref a0_33, .ref a0_34, .ref a0_35, .long a0_36, .int a0_37, .ref a0_38, .ref a0_39, .int a0_40, .ref a0_41, .ref a0_42, .ref a0_43])), (a0_4, .inl (a0_4_c, 1000, .inl a0_4_f))] s.heap.size = A at hD hE ⊢
  have hA : ∀ q : Nat, s.heap.size ≤ q → A q := fun q h => by rw [← hAe]; exact Or.inr h
  have hS : va_S A s.heap s.heap [] := va_S.rf
  replace hP : va_P (dC, dI) vwCl [(a0, .inr (8, [.int a0_0, .int a0_1, .int a0_2, .int a0_3, .ref a0_4, .int a0_5, .int a0_6, .int a0_7, .int a0_8, .int a0_9, .int a0_10, .long a0_11, .int a0_12, .int a0_13, .int a0_14, .int a0_15, .int a0_16, .int a0_17, .ref a0_18, .ref a0_19, .ref a0_20, .ref a0_21, .ref a0_22, .ref a0_23, .ref a0_24, .ref a0_25, .ref a0_26, .ref a0_27, .ref a0_28, .ref a0_29, .ref a0_30, .ref a0_31, .ref a0_32, .ref a0_33, .ref a0_34, .ref a0_35, .long a0_36, .int a0_37, .ref a0_38, .ref a0_39, .int a0_40, .ref a0_41, .ref a0_42, .ref a0_43])), (a0_4, .inl (a0_4_c, 1000, .inl a0_4_f))] s.heap := hP
  have hl := lv_entry ([.ref a0, .int a1, .int a2]) (n := 3) (Nat.le_of_ble_eq_true rfl)
  rw [lg_entry_eq]
  generalize (lg_sl ([.ref a0, .int a1, .int a2]) ++ List.replicate (3 - (lg_sl ([.ref a0, .int a1, .int a2])).length) Slot.unset).toArray = ls at hl ⊢
  have hl : lv_has ls 3 [(0, .ref a0), (1, .int a1), (2, .int a2)] := hl
  have b_a1 := i32b a1
  have b_a2 := i32b a2
  have b_a0_0 := i32b a0_0
  have b_a0_1 := i32b a0_1
  have b_a0_2 := i32b a0_2
  have b_a0_3 := i32b a0_3
  have b_a0_9 := i32b a0_9
  have b_a0_10 := i32b a0_10
  have b_a0_12 := i32b a0_12
  have b_a0_13 := i32b a0_13
  have b_a0_14 := i32b a0_14
  have b_a0_15 := i32b a0_15
  have b_a0_16 := i32b a0_16
  refine lv_aload_n hx hb dX9_takesNumber_0 rfl (lv_at hl 0 rfl) ?_
  refine lv_aload_n hx hb dX9_takesNumber_1 rfl (lv_at hl 0 rfl) ?_
  refine va_get (D := (dC, dI)) (ci := 8) (v := .int a0_9) (C := RX9) (T := TX9) (N := 44) hx hb hts inlX9 hown hK hP 0 rgL2_5ac5f51 rfl 9 (by decide) (hts (.fieldLink RX9 160 "ClosedUntilModel" "token" "I") qw_421) (fun _ h9 => h9) rfl dX9_takesNumber_2 ?_
  refine lv_iconst (v := 2) hx hb dX9_takesNumber_5 (by decide) ?_
  refine lv_icmp_ne (tgt := 13) hx hb dX9_takesNumber_6 (by decide) (fun c6_1 => ?_) (fun c6_1 => ?_)
  · have c6_1 : ¬ (a0_9.toInt = 2) := mt (cv_eq rfl (by decide)).mpr c6_1
    refine lv_iconst (v := 0) hx hb dX9_takesNumber_13 (by decide) ?_
    refine lv_iconst (v := 1) hx hb dX9_takesNumber_14 (by decide) ?_
    have qc0 : (0 : Int32).toInt = 0 := by decide
    have qc1 : (1 : Int32).toInt = 1 := by decide
    have hPc := (rgP2_30027b6 hP)
    have hKc := (rgK1_f3b3254 hK)
    have hDc := (rgD2_3e08a98 hD)
    have hFc := freeW hDc hS hA
    refine va_calli (va_runV (As := [.int 0, .int 1]) (rest := []) ⟨hx, hb, hml, hown, hts⟩ (k_X9_must l dC dI g s.heap.size (a0) (0) (1) (a0_0) (a0_1) (a0_2) (a0_3) (a0_4) (a0_5) (a0_6) (a0_7) (a0_8) (a0_9) (a0_10) (a0_11) (a0_12) (a0_13) (a0_14) (a0_15) (a0_16) (a0_17) (a0_18) (a0_19) (a0_20) (a0_21) (a0_22) (a0_23) (a0_24) (a0_25) (a0_26) (a0_27) (a0_28) (a0_29) (a0_30) (a0_31) (a0_32) (a0_33) (a0_34) (a0_35) (a0_36) (a0_37) (a0_38) (a0_39) (a0_40) (a0_41) (a0_42) (a0_43) (by omega) (by omega) (by omega) (by omega) (by omega) (by omega) (by omega) (by omega)) (cwV 2 hts (gwV qw_472 qw_473 qw_474 qw_386 qw_471) rfl rfl rfl (by decide +kernel) ⟨Nat.le_of_ble_eq_true rfl, Nat.le_of_ble_eq_true rfl⟩) ⟨fun a U g9 mk q => ⟨q.1, q.2.1, q.2.2.1, va_K.moved (u := U) (U := U.calling g9 mk a) (Vm.Alike.refl U.vm) q.2.2.2.1, q.2.2.2.2.1, Ev.bl q.2.2.2.2.2⟩, va_recv hK hP (ci := 8) (q0 := 0) rfl rgL2_5ac5f51, fun U hU hW => ⟨rfl, by rw [hU], atB hU hPc, va_K.moved hW.alike hKc, hDc.weaken (fun _ _ _ _ => trivial), hE.go hS hFc hU hW⟩⟩ rfl rfl hl.1 rfl (lv_room (Nat.le_of_ble_eq_true rfl)) dX9_takesNumber_15 ⟨Nat.le_of_ble_eq_true rfl, Nat.le_of_ble_eq_true rfl⟩) hS (fun q _ h => hFc q h) hFc (fun r3 u2 t H1 locs ht hvm h_u2 hB hz1 hk1 hS => ?_)
    obtain ⟨za0_12_4, za0_13_5, hF6, hF7, hP1, hK1, hD1⟩ := hB
    have hK1 := va_K.moved hvm.symm hK1
    have hJ9 := rgJ2_6b57713 hP hD hk1 hFc (atH ht hP1) hD1
    clear hP hD hPc hKc hDc hFc hP1 hD1 hk1 hz1
    obtain ⟨hP, hD⟩ := hJ9
    clear hK1
    generalize H1 = H at hP hS ⊢
    refine W.widen (k := 0) (n := 0) (Nat.le_of_ble_eq_true rfl) (Nat.le_of_ble_eq_true rfl) ?_
    have h_r3 := congrArg Int32.toInt h_u2
    have hz_r3 : r3 = 0 ∨ r3 = 1 := h_u2 ▸ hF6
    have b_r3 := z01 hz_r3
    refine cst (v := 0) (Int32.toInt_inj.mp (by rw [show (0 : Int32).toInt = 0 by decide]; omega)) ?_
    refine lv_if_eq (tgt := 41) hx hb dX9_takesNumber_18 (by decide) (fun c18_8 => ?_) (fun c18_8 => by exfalso; exact absurd c18_8 (by decide))
    refine lv_iconst (v := 0) hx hb dX9_takesNumber_41 (by decide) ?_
    have qc0 : (0 : Int32).toInt = 0 := by decide
    refine W.widen (k := 0) (n := 0) (Nat.le_of_ble_eq_true rfl) (Nat.le_of_ble_eq_true rfl) ?_
    have hP9 := hP
    have hD9 := hD
    have hK9 := (rgK1_f3b3254 hK)
    have hf9_0 : (0 ≤ a0_7.toInt ∧ a0_7.toInt ≤ 1000) := by omega
    have hf9_1 : (0 ≤ a0_8.toInt ∧ a0_8.toInt ≤ 1000) := by omega
    have hf9_2 : ((0 : Int32) = 0 ∨ (0 : Int32) = 1) := (by decide)
    exact W.zret (v := 0) hx hb hr rfl (fun t ht hW => ⟨⟨0, 0, rfl, rfl, a0_7, a0_8, a0_9, a0_10, a0_11, za0_12_4, za0_13_5, a0_14, hf9_0, hf9_1, hf9_2, atB ht hP9, va_K.moved hW.alike hK9, hD9⟩, hS.F ht⟩) hS.2.2 dX9_takesNumber_42
  · have c6_1 : a0_9.toInt = 2 := (cv_eq rfl (by decide)).mp c6_1
    refine lv_iconst (v := 1) hx hb dX9_takesNumber_9 (by decide) ?_
    refine lv_goto (tgt := 14) hx hb dX9_takesNumber_10 (by decide) ?_
    refine lv_iconst (v := 1) hx hb dX9_takesNumber_14 (by decide) ?_
    have qc1 : (1 : Int32).toInt = 1 := by decide
    have hPc := (rgP2_30027b6 hP)
    have hKc := (rgK1_f3b3254 hK)
    have hDc := (rgD2_3e08a98 hD)
    have hFc := freeW hDc hS hA
    refine va_calli (va_runV (As := [.int 1, .int 1]) (rest := []) ⟨hx, hb, hml, hown, hts⟩ (k_X9_must l dC dI g s.heap.size (a0) (1) (1) (a0_0) (a0_1) (a0_2) (a0_3) (a0_4) (a0_5) (a0_6) (a0_7) (a0_8) (a0_9) (a0_10) (a0_11) (a0_12) (a0_13) (a0_14) (a0_15) (a0_16) (a0_17) (a0_18) (a0_19) (a0_20) (a0_21) (a0_22) (a0_23) (a0_24) (a0_25) (a0_26) (a0_27) (a0_28) (a0_29) (a0_30) (a0_31) (a0_32) (a0_33) (a0_34) (a0_35) (a0_36) (a0_37) (a0_38) (a0_39) (a0_40) (a0_41) (a0_42) (a0_43) (by omega) (by omega) (by omega) (by omega) (by omega) (by omega) (by omega) (by omega)) (cwV 2 hts (gwV qw_472 qw_473 qw_474 qw_386 qw_471) rfl rfl rfl (by decide +kernel) ⟨Nat.le_of_ble_eq_true rfl, Nat.le_of_ble_eq_true rfl⟩) ⟨fun a U g9 mk q => ⟨q.1, q.2.1, q.2.2.1, va_K.moved (u := U) (U := U.calling g9 mk a) (Vm.Alike.refl U.vm) q.2.2.2.1, q.2.2.2.2.1, Ev.bl q.2.2.2.2.2⟩, va_recv hK hP (ci := 8) (q0 := 0) rfl rgL2_5ac5f51, fun U hU hW => ⟨rfl, by rw [hU], atB hU hPc, va_K.moved hW.alike hKc, hDc.weaken (fun _ _ _ _ => trivial), hE.go hS hFc hU hW⟩⟩ rfl rfl hl.1 rfl (lv_room (Nat.le_of_ble_eq_true rfl)) dX9_takesNumber_15 ⟨Nat.le_of_ble_eq_true rfl, Nat.le_of_ble_eq_true rfl⟩) hS (fun q _ h => hFc q h) hFc (fun r10 u9 t H1 locs ht hvm h_u9 hB hz1 hk1 hS => ?_)
    obtain ⟨za0_12_11, za0_13_12, hF13, hF14, hP1, hK1, hD1⟩ := hB
    have hK1 := va_K.moved hvm.symm hK1
    have hJ9 := rgJ2_6b57713 hP hD hk1 hFc (atH ht hP1) hD1
    clear hP hD hPc hKc hDc hFc hP1 hD1 hk1 hz1
    obtain ⟨hP, hD⟩ := hJ9
    clear hK1
    generalize H1 = H at hP hS ⊢
    refine W.widen (k := 0) (n := 0) (Nat.le_of_ble_eq_true rfl) (Nat.le_of_ble_eq_true rfl) ?_
    have h_r10 := congrArg Int32.toInt h_u9
    have hz_r10 : r10 = 0 ∨ r10 = 1 := h_u9 ▸ hF13
    have b_r10 := z01 hz_r10
    refine lv_if_eq (tgt := 41) hx hb dX9_takesNumber_18 (by decide) (fun c18_15 => ?_) (fun c18_15 => ?_)
    · have c18_15 : r10.toInt = 0 := (cv_eq rfl (by decide)).mp c18_15
      refine lv_iconst (v := 0) hx hb dX9_takesNumber_41 (by decide) ?_
      have qc0 : (0 : Int32).toInt = 0 := by decide
      refine W.widen (k := 0) (n := 0) (Nat.le_of_ble_eq_true rfl) (Nat.le_of_ble_eq_true rfl) ?_
      have hP9 := hP
      have hD9 := hD
      have hK9 := (rgK1_f3b3254 hK)
      have hf9_0 : (0 ≤ a0_7.toInt ∧ a0_7.toInt ≤ 1000) := by omega
      have hf9_1 : (0 ≤ a0_8.toInt ∧ a0_8.toInt ≤ 1000) := by omega
      have hf9_2 : ((0 : Int32) = 0 ∨ (0 : Int32) = 1) := (by decide)
      exact W.zret (v := 0) hx hb hr rfl (fun t ht hW => ⟨⟨0, 0, rfl, rfl, a0_7, a0_8, a0_9, a0_10, a0_11, za0_12_11, za0_13_12, a0_14, hf9_0, hf9_1, hf9_2, atB ht hP9, va_K.moved hW.alike hK9, hD9⟩, hS.F ht⟩) hS.2.2 dX9_takesNumber_42
    · have c18_15 : ¬ (r10.toInt = 0) := mt (cv_eq rfl (by decide)).mpr c18_15
      refine lv_aload_n hx hb dX9_takesNumber_21 rfl (lv_at hl 0 rfl) ?_
      refine lv_aload_n hx hb dX9_takesNumber_22 rfl (lv_at hl 0 rfl) ?_
      refine va_get (D := (dC, dI)) (ci := 8) (v := .int a0_10) (C := RX9) (T := TX9) (N := 44) hx hb hts inlX9 hown hK hP 0 rgL2_5ac5f51 rfl 10 (by decide) (hts (.fieldLink RX9 163 "ClosedUntilModel" "value" "I") qw_461) (fun _ h9 => h9) rfl dX9_takesNumber_23 ?_
      refine lv_i2l hx hb dX9_takesNumber_26 rfl ?_
      refine lv_iload_n hx hb dX9_takesNumber_27 rfl (lv_at hl 1 rfl) ?_
      refine lv_i2l hx hb dX9_takesNumber_28 rfl ?_
      refine lv_iload_n hx hb dX9_takesNumber_29 rfl (lv_at hl 2 rfl) ?_
      refine lv_i2l hx hb dX9_takesNumber_30 rfl ?_
      have hPc := (rgP2_6c9046d hP)
      have hKc := (rgK1_f3b3254 hK)
      refine vp_callSi ((va_runS (As := [.long (a0_10.toInt64), .long (a1.toInt64), .long (a2.toInt64)]) (rest := [.ref a0]) ⟨hx, hb, hml, hown, hts⟩ (k_X9_within l dC dI g ((a0_10.toInt64)) ((a1.toInt64)) ((a2.toInt64)) (a0_10.toInt) (a1.toInt) (a2.toInt) (w_li rfl) (w_li rfl) (w_li rfl)) (va_cwS 3 hts (gwS qw_444 qw_445 qw_386 qw_443) rfl rfl rfl (by decide +kernel) ⟨Nat.le_of_ble_eq_true rfl, Nat.le_of_ble_eq_true rfl⟩) ⟨fun a U g9 mk q => ⟨q.1, q.2.1, va_K.moved (u := U) (U := U.calling g9 mk a) (Vm.Alike.refl U.vm) q.2.2.1, Ev.bl q.2.2.2⟩, fun U hU hW => ⟨rfl, atB hU hPc, va_K.moved hW.alike hKc, hE.go hS (fun _ h => h.elim) hU hW⟩⟩ rfl rfl hl.1 rfl (lv_room (Nat.le_of_ble_eq_true rfl)) dX9_takesNumber_31 ⟨Nat.le_of_ble_eq_true rfl, Nat.le_of_ble_eq_true rfl⟩)).run (fun r16 h_r16 => ?_)
      have h_r16 : (r16 = 0 ∨ r16 = 1) ∧ ((r16.toInt = 1 ∧ a1.toInt ≤ a0_10.toInt ∧ a0_10.toInt ≤ a2.toInt) ∨ (r16.toInt = 0 ∧ ¬ (a1.toInt ≤ a0_10.toInt ∧ a0_10.toInt ≤ a2.toInt))) := h_r16
      have b_r16 := z01 h_r16.1
      refine lv_iconst (v := 4) hx hb dX9_takesNumber_34 (by decide) ?_
      have qc4 : (4 : Int32).toInt = 4 := by decide
      have hPc := (rgP2_30027b6 hP)
      have hKc := (rgK1_f3b3254 hK)
      have hDc := (rgD2_3e08a98 hD)
      have hFc := freeW hDc hS hA
      refine va_calli (va_runV (As := [.int r16, .int 4]) (rest := []) ⟨hx, hb, hml, hown, hts⟩ (k_X9_must l dC dI g H.size (a0) (r16) (4) (a0_0) (a0_1) (a0_2) (a0_3) (a0_4) (a0_5) (a0_6) (a0_7) (a0_8) (a0_9) (a0_10) (a0_11) (za0_12_11) (za0_13_12) (a0_14) (a0_15) (a0_16) (a0_17) (a0_18) (a0_19) (a0_20) (a0_21) (a0_22) (a0_23) (a0_24) (a0_25) (a0_26) (a0_27) (a0_28) (a0_29) (a0_30) (a0_31) (a0_32) (a0_33) (a0_34) (a0_35) (a0_36) (a0_37) (a0_38) (a0_39) (a0_40) (a0_41) (a0_42) (a0_43) (by omega) (by omega) (by omega) (by omega) (by omega) (by omega) (by omega) (by omega)) (cwV 2 hts (gwV qw_472 qw_473 qw_474 qw_386 qw_471) rfl rfl rfl (by decide +kernel) ⟨Nat.le_of_ble_eq_true rfl, Nat.le_of_ble_eq_true rfl⟩) ⟨fun a U g9 mk q => ⟨q.1, q.2.1, q.2.2.1, va_K.moved (u := U) (U := U.calling g9 mk a) (Vm.Alike.refl U.vm) q.2.2.2.1, q.2.2.2.2.1, Ev.bl q.2.2.2.2.2⟩, va_recv hK hP (ci := 8) (q0 := 0) rfl rgL2_5ac5f51, fun U hU hW => ⟨rfl, by rw [hU], atB hU hPc, va_K.moved hW.alike hKc, hDc.weaken (fun _ _ _ _ => trivial), hE.go hS hFc hU hW⟩⟩ rfl rfl hl.1 rfl (lv_room (Nat.le_of_ble_eq_true rfl)) dX9_takesNumber_35 ⟨Nat.le_of_ble_eq_true rfl, Nat.le_of_ble_eq_true rfl⟩) hS (fun q _ h => hFc q h) hFc (fun r18 u17 t H1 locs ht hvm h_u17 hB hz1 hk1 hS => ?_)
      obtain ⟨za0_12_19, za0_13_20, hF21, hF22, hP1, hK1, hD1⟩ := hB
      have hK1 := va_K.moved hvm.symm hK1
      have hJ9 := rgJ2_6b57713 hP hD hk1 hFc (atH ht hP1) hD1
      clear hP hD hPc hKc hDc hFc hP1 hD1 hk1 hz1
      obtain ⟨hP, hD⟩ := hJ9
      clear hK1
      generalize H1 = H at hP hS ⊢
      refine W.widen (k := 0) (n := 0) (Nat.le_of_ble_eq_true rfl) (Nat.le_of_ble_eq_true rfl) ?_
      have h_r18 := congrArg Int32.toInt h_u17
      have hz_r18 : r18 = 0 ∨ r18 = 1 := h_u17 ▸ hF21
      have b_r18 := z01 hz_r18
      refine lv_if_ne (tgt := 43) hx hb dX9_takesNumber_38 (by decide) (fun c38_23 => ?_) (fun c38_23 => ?_)
      · have c38_23 : ¬ (r18.toInt = 0) := mt (cv_eq rfl (by decide)).mpr c38_23
        refine lv_aload_n hx hb dX9_takesNumber_43 rfl (lv_at hl 0 rfl) ?_
        refine lv_aload_n hx hb dX9_takesNumber_44 rfl (lv_at hl 0 rfl) ?_
        refine va_get (D := (dC, dI)) (ci := 8) (v := .int a0_10) (C := RX9) (T := TX9) (N := 44) hx hb hts inlX9 hown hK hP 0 rgL2_5ac5f51 rfl 10 (by decide) (hts (.fieldLink RX9 163 "ClosedUntilModel" "value" "I") qw_461) (fun _ h9 => h9) rfl dX9_takesNumber_45 ?_
        refine va_put (D := (dC, dI)) (ci := 8) (v := .int a0_10) (ty := .int) (C := RX9) (T := TX9) (N := 44) hx hb hts inlX9 tyX9 tyX9_ok nmX9 hown hK hP hD hS 0 rgL2_5ac5f51 rfl 14 (by decide) (hts (.fieldLink RX9 243 "ClosedUntilModel" "numberHere" "I") qw_475) (fun _ h9 => h9) rfl (by decide +kernel) rfl rfl (Nat.le_of_ble_eq_true rfl) dX9_takesNumber_48 (fun H locs hP9 hD9 hS9 => ?_)
        clear hP hD hS
        obtain ⟨hP, hD⟩ := rgS2_40109d0 (e := (a0, .inr (8, [.int a0_0, .int a0_1, .int a0_2, .int a0_3, .ref a0_4, .int a0_5, .int a0_6, .int a0_7, .int a0_8, .int a0_9, .int a0_10, .long a0_11, .int za0_12_19, .int za0_13_20, .int a0_10, .int a0_15, .int a0_16, .int a0_17, .ref a0_18, .ref a0_19, .ref a0_20, .ref a0_21, .ref a0_22, .ref a0_23, .ref a0_24, .ref a0_25, .ref a0_26, .ref a0_27, .ref a0_28, .ref a0_29, .ref a0_30, .ref a0_31, .ref a0_32, .ref a0_33, .ref a0_34, .ref a0_35, .long a0_36, .int a0_37, .ref a0_38, .ref a0_39, .int a0_40, .ref a0_41, .ref a0_42, .ref a0_43]))) hP9 hD9 rfl
        have hS := hS9; clear hP9 hD9 hS9
        refine lv_aload_n hx hb dX9_takesNumber_51 rfl (lv_at hl 0 rfl) ?_
        have hPc := hP
        have hKc := hK
        have hDc := hD
        have hFc := freeW hDc hS hA
        refine va_callv (va_runV (As := []) (rest := []) ⟨hx, hb, hml, hown, hts⟩ (k_X9_steps l dC dI g H.size (a0) (a0_0) (a0_1) (a0_2) (a0_3) (a0_4) (a0_5) (a0_6) (a0_7) (a0_8) (a0_9) (a0_10) (a0_11) (za0_12_19) (za0_13_20) (a0_10) (a0_15) (a0_16) (a0_17) (a0_18) (a0_19) (a0_20) (a0_21) (a0_22) (a0_23) (a0_24) (a0_25) (a0_26) (a0_27) (a0_28) (a0_29) (a0_30) (a0_31) (a0_32) (a0_33) (a0_34) (a0_35) (a0_36) (a0_37) (a0_38) (a0_39) (a0_40) (a0_41) (a0_42) (a0_43) (a0_4_c) (a0_4_f) (by omega) (by omega) (by omega) (by omega) (by omega) (by omega) (by omega)) (cwV 0 hts (gwV qw_468 qw_469 qw_470 qw_386 qw_467) rfl rfl rfl (by decide +kernel) ⟨Nat.le_of_ble_eq_true rfl, Nat.le_of_ble_eq_true rfl⟩) ⟨fun a U g9 mk q => ⟨q.1, q.2.1, q.2.2.1, va_K.moved (u := U) (U := U.calling g9 mk a) (Vm.Alike.refl U.vm) q.2.2.2.1, q.2.2.2.2.1, Ev.bl q.2.2.2.2.2⟩, va_recv hK hP (ci := 8) (q0 := 0) rfl rgL2_5ac5f51, fun U hU hW => ⟨rfl, by rw [hU], atB hU hPc, va_K.moved hW.alike hKc, hDc.weaken (fun _ _ _ _ => trivial), hE.go hS hFc hU hW⟩⟩ rfl rfl hl.1 rfl (lv_room (Nat.le_of_ble_eq_true rfl)) dX9_takesNumber_52 ⟨Nat.le_of_ble_eq_true rfl, Nat.le_of_ble_eq_true rfl⟩) hS (fun q _ h => hFc q h) hFc (fun u24 t H1 locs ht hvm h_u24 hB hz1 hk1 hS => ?_)
        obtain ⟨za0_7_26, za0_8_27, za0_9_28, za0_10_29, za0_11_30, hF31, hF32, hP1, hK1, hD1⟩ := hB
        have hK1 := va_K.moved hvm.symm hK1
        have hJ9 := rgJ2_9775942 hP hD hk1 hFc (atH ht hP1) hD1
        clear hP hD hPc hKc hDc hFc hP1 hD1 hk1 hz1
        obtain ⟨hP, hD⟩ := hJ9
        clear hK1
        generalize H1 = H at hP hS ⊢
        refine W.widen (k := 0) (n := 0) (Nat.le_of_ble_eq_true rfl) (Nat.le_of_ble_eq_true rfl) ?_
        refine lv_iconst (v := 1) hx hb dX9_takesNumber_55 (by decide) ?_
        have qc1 : (1 : Int32).toInt = 1 := by decide
        refine W.widen (k := 0) (n := 0) (Nat.le_of_ble_eq_true rfl) (Nat.le_of_ble_eq_true rfl) ?_
        have hP9 := hP
        have hD9 := hD
        have hK9 := (rgK1_f3b3254 hK)
        have hf9_0 : (0 ≤ za0_7_26.toInt ∧ za0_7_26.toInt ≤ 1000) := by omega
        have hf9_1 : (0 ≤ za0_8_27.toInt ∧ za0_8_27.toInt ≤ 1000) := by omega
        have hf9_2 : ((1 : Int32) = 0 ∨ (1 : Int32) = 1) := (by decide)
        exact W.zret (v := 1) hx hb hr rfl (fun t ht hW => ⟨⟨1, 1, rfl, rfl, za0_7_26, za0_8_27, za0_9_28, za0_10_29, za0_11_30, za0_12_19, za0_13_20, a0_10, hf9_0, hf9_1, hf9_2, atB ht hP9, va_K.moved hW.alike hK9, hD9⟩, hS.F ht⟩) hS.2.2 dX9_takesNumber_56
      · have c38_23 : r18.toInt = 0 := (cv_eq rfl (by decide)).mp c38_23
        refine lv_iconst (v := 0) hx hb dX9_takesNumber_41 (by decide) ?_
        have qc0 : (0 : Int32).toInt = 0 := by decide
        refine W.widen (k := 0) (n := 0) (Nat.le_of_ble_eq_true rfl) (Nat.le_of_ble_eq_true rfl) ?_
        have hP9 := hP
        have hD9 := hD
        have hK9 := (rgK1_f3b3254 hK)
        have hf9_0 : (0 ≤ a0_7.toInt ∧ a0_7.toInt ≤ 1000) := by omega
        have hf9_1 : (0 ≤ a0_8.toInt ∧ a0_8.toInt ≤ 1000) := by omega
        have hf9_2 : ((0 : Int32) = 0 ∨ (0 : Int32) = 1) := (by decide)
        exact W.zret (v := 0) hx hb hr rfl (fun t ht hW => ⟨⟨0, 0, rfl, rfl, a0_7, a0_8, a0_9, a0_10, a0_11, za0_12_19, za0_13_20, a0_14, hf9_0, hf9_1, hf9_2, atB ht hP9, va_K.moved hW.alike hK9, hD9⟩, hS.F ht⟩) hS.2.2 dX9_takesNumber_42
set_option maxHeartbeats 4000000 in
set_option maxRecDepth 100000 in
theorem k_X9_takesDate (l : Launch) (dC : Nat → ClassId) (dI : Nat → Nat → Nat) (g : Gv) (sz : Nat) (a0 : Nat) (a0_0 : Int32) (a0_1 : Int32) (a0_2 : Int32) (a0_3 : Int32) (a0_4 : Nat) (a0_5 : Int32) (a0_6 : Int32) (a0_7 : Int32) (a0_8 : Int32) (a0_9 : Int32) (a0_10 : Int32) (a0_11 : Int64) (a0_12 : Int32) (a0_13 : Int32) (a0_14 : Int32) (a0_15 : Int32) (a0_16 : Int32) (a0_17 : Int32) (a0_18 : Nat) (a0_19 : Nat) (a0_20 : Nat) (a0_21 : Nat) (a0_22 : Nat) (a0_23 : Nat) (a0_24 : Nat) (a0_25 : Nat) (a0_26 : Nat) (a0_27 : Nat) (a0_28 : Nat) (a0_29 : Nat) (a0_30 : Nat) (a0_31 : Nat) (a0_32 : Nat) (a0_33 : Nat) (a0_34 : Nat) (a0_35 : Nat) (a0_36 : Int64) (a0_37 : Int32) (a0_38 : Nat) (a0_39 : Nat) (a0_40 : Int32) (a0_41 : Nat) (a0_42 : Nat) (a0_43 : Nat) (a0_4_c : ClassId) (a0_4_f : Nat → Int32) (h_a0_5 : 0 ≤ a0_5.toInt ∧ a0_5.toInt ≤ 1000) (h_a0_6 : 0 ≤ a0_6.toInt ∧ a0_6.toInt ≤ 1000) (h_a0_7 : 0 ≤ a0_7.toInt ∧ a0_7.toInt ≤ 1000) (h_a0_8 : 0 ≤ a0_8.toInt ∧ a0_8.toInt ≤ 1000) (h_a0_17 : 0 ≤ a0_17.toInt ∧ a0_17.toInt ≤ 1) (h_a0_37 : (-1) ≤ a0_37.toInt ∧ a0_37.toInt ≤ 23) (h_a0_40 : 0 ≤ a0_40.toInt ∧ a0_40.toInt ≤ 12) : Met l yX9_takesDate (.code yX9_takesDate cX9_takesDate 3 (some .boolean) :: TBL) ({ frames := 3, cells := 0, slots := 0, locals := 68 }) (va_Pc [.ref a0] (fun U => U.heap.size = sz ∧ va_P (dC, dI) vwCl [(a0, .inr (8, [.int a0_0, .int a0_1, .int a0_2, .int a0_3, .ref a0_4, .int a0_5, .int a0_6, .int a0_7, .int a0_8, .int a0_9, .int a0_10, .long a0_11, .int a0_12, .int a0_13, .int a0_14, .int a0_15, .int a0_16, .int a0_17, .ref a0_18, .ref a0_19, .ref a0_20, .ref a0_21, .ref a0_22, .ref a0_23, .ref a0_24, .ref a0_25, .ref a0_26, .ref a0_27, .ref a0_28, .ref a0_29, .ref a0_30, .ref a0_31, .ref a0_32, .ref a0_33, .ref a0_34, .ref a0_35, .long a0_36, .int a0_37, .ref a0_38, .ref a0_39, .int a0_40, .ref a0_41, .ref a0_42, .ref a0_43])), (a0_4, .inl (a0_4_c, 1000, .inl a0_4_f))] U.heap ∧ va_K (dC, dI) vwCl [(a0_4_c, .byte)] U ∧ va_D (fun _ => True) [(a0, .inr (8, [.int a0_0, .int a0_1, .int a0_2, .int a0_3, .ref a0_4, .int a0_5, .int a0_6, .int a0_7, .int a0_8, .int a0_9, .int a0_10, .long a0_11, .int a0_12, .int a0_13, .int a0_14, .int a0_15, .int a0_16, .int a0_17, .ref a0_18, .ref a0_19, .ref a0_20, .ref a0_21, .ref a0_22, .ref a0_23, .ref a0_24, .ref a0_25, .ref a0_26, .ref a0_27, .ref a0_28, .ref a0_29, .ref a0_30, .ref a0_31, .ref a0_32, .ref a0_33, .ref a0_34, .ref a0_35, .long a0_36, .int a0_37, .ref a0_38, .ref a0_39, .int a0_40, .ref a0_41, .ref a0_42, .ref a0_43])), (a0_4, .inl (a0_4_c, 1000, .inl a0_4_f))] ∧ Ev g (va_A [(a0, .inr (8, [.int a0_0, .int a0_1, .int a0_2, .int a0_3, .ref a0_4, .int a0_5, .int a0_6, .int a0_7, .int a0_8, .int a0_9, .int a0_10, .long a0_11, .int a0_12, .int a0_13, .int a0_14, .int a0_15, .int a0_16, .int a0_17, .ref a0_18, .ref a0_19, .ref a0_20, .ref a0_21, .ref a0_22, .ref a0_23, .ref a0_24, .ref a0_25, .ref a0_26, .ref a0_27, .ref a0_28, .ref a0_29, .ref a0_30, .ref a0_31, .ref a0_32, .ref a0_33, .ref a0_34, .ref a0_35, .long a0_36, .int a0_37, .ref a0_38, .ref a0_39, .int a0_40, .ref a0_41, .ref a0_42, .ref a0_43])), (a0_4, .inl (a0_4_c, 1000, .inl a0_4_f))] sz) U)) (va_Qi (fun (r : Int32) (u : Int32) => u = r) (fun (u : Int32) (t : State) => ∃ (za0_7 : Int32) (za0_8 : Int32) (za0_9 : Int32) (za0_10 : Int32) (za0_11 : Int64) (za0_12 : Int32) (za0_13 : Int32) (za0_14 : Int32) (za0_15 : Int32) (za0_16 : Int32), (0 ≤ za0_7.toInt ∧ za0_7.toInt ≤ 1000) ∧ (0 ≤ za0_8.toInt ∧ za0_8.toInt ≤ 1000) ∧ (u = 0 ∨ u = 1) ∧ va_P (dC, dI) vwCl [(a0, .inr (8, [.int a0_0, .int a0_1, .int a0_2, .int a0_3, .ref a0_4, .int a0_5, .int a0_6, .int za0_7, .int za0_8, .int za0_9, .int za0_10, .long za0_11, .int za0_12, .int za0_13, .int za0_14, .int za0_15, .int za0_16, .int a0_17, .ref a0_18, .ref a0_19, .ref a0_20, .ref a0_21, .ref a0_22, .ref a0_23, .ref a0_24, .ref a0_25, .ref a0_26, .ref a0_27, .ref a0_28, .ref a0_29, .ref a0_30, .ref a0_31, .ref a0_32, .ref a0_33, .ref a0_34, .ref a0_35, .long a0_36, .int a0_37, .ref a0_38, .ref a0_39, .int a0_40, .ref a0_41, .ref a0_42, .ref a0_43])), (a0_4, .inl (a0_4_c, 1000, .inl a0_4_f))] t.heap ∧ va_K (dC, dI) vwCl [] t ∧ va_D (va_A [(a0, .inr (8, [.int a0_0, .int a0_1, .int a0_2, .int a0_3, .ref a0_4, .int a0_5, .int a0_6, .int a0_7, .int a0_8, .int a0_9, .int a0_10, .long a0_11, .int a0_12, .int a0_13, .int a0_14, .int a0_15, .int a0_16, .int a0_17, .ref a0_18, .ref a0_19, .ref a0_20, .ref a0_21, .ref a0_22, .ref a0_23, .ref a0_24, .ref a0_25, .ref a0_26, .ref a0_27, .ref a0_28, .ref a0_29, .ref a0_30, .ref a0_31, .ref a0_32, .ref a0_33, .ref a0_34, .ref a0_35, .long a0_36, .int a0_37, .ref a0_38, .ref a0_39, .int a0_40, .ref a0_41, .ref a0_42, .ref a0_43])), (a0_4, .inl (a0_4_c, 1000, .inl a0_4_f))] sz) [(a0, .inr (8, [.int a0_0, .int a0_1, .int a0_2, .int a0_3, .ref a0_4, .int a0_5, .int a0_6, .int za0_7, .int za0_8, .int za0_9, .int za0_10, .long za0_11, .int za0_12, .int za0_13, .int za0_14, .int za0_15, .int za0_16, .int a0_17, .ref a0_18, .ref a0_19, .ref a0_20, .ref a0_21, .ref a0_22, .ref a0_23, .ref a0_24, .ref a0_25, .ref a0_26, .ref a0_27, .ref a0_28, .ref a0_29, .ref a0_30, .ref a0_31, .ref a0_32, .ref a0_33, .ref a0_34, .ref a0_35, .long a0_36, .int a0_37, .ref a0_38, .ref a0_39, .int a0_40, .ref a0_41, .ref a0_42, .ref a0_43])), (a0_4, .inl (a0_4_c, 1000, .inl a0_4_f))]) (va_A [(a0, .inr (8, [.int a0_0, .int a0_1, .int a0_2, .int a0_3, .ref a0_4, .int a0_5, .int a0_6, .int a0_7, .int a0_8, .int a0_9, .int a0_10, .long a0_11, .int a0_12, .int a0_13, .int a0_14, .int a0_15, .int a0_16, .int a0_17, .ref a0_18, .ref a0_19, .ref a0_20, .ref a0_21, .ref a0_22, .ref a0_23, .ref a0_24, .ref a0_25, .ref a0_26, .ref a0_27, .ref a0_28, .ref a0_29, .ref a0_30, .ref a0_31, .ref a0_32, .ref a0_33, .ref a0_34, .ref a0_35, .long a0_36, .int a0_37, .ref a0_38, .ref a0_39, .int a0_40, .ref a0_41, .ref a0_42, .ref a0_43])), (a0_4, .inl (a0_4_c, 1000, .inl a0_4_f))] sz)) 0 0 (va_A [(a0, .inr (8, [.int a0_0, .int a0_1, .int a0_2, .int a0_3, .ref a0_4, .int a0_5, .int a0_6, .int a0_7, .int a0_8, .int a0_9, .int a0_10, .long a0_11, .int a0_12, .int a0_13, .int a0_14, .int a0_15, .int a0_16, .int a0_17, .ref a0_18, .ref a0_19, .ref a0_20, .ref a0_21, .ref a0_22, .ref a0_23, .ref a0_24, .ref a0_25, .ref a0_26, .ref a0_27, .ref a0_28, .ref a0_29, .ref a0_30, .ref a0_31, .ref a0_32, .ref a0_33, .ref a0_34, .ref a0_35, .long a0_36, .int a0_37, .ref a0_38, .ref a0_39, .int a0_40, .ref a0_41, .ref a0_42, .ref a0_43])), (a0_4, .inl (a0_4_c, 1000, .inl a0_4_f))] sz) := by
  refine Met.ofW (cc := cX9_takesDate) (maxL := 3) (ret := (some .boolean)) (by decide) rfl ?_
  intro p e s m args below meth c s₁ B hml hv
  obtain ⟨rfl, hsz, hP, hK, hD0, hE⟩ := hv
  have hx := B.exec
  have hb := B.bytes
  have hr := B.returns
  have hts0 := atoms_spec (ws := (.code yX9_takesDate cX9_takesDate 3 (some .boolean) :: TBL)) B.pre
  have hts := fun (w : Cond) (h : w ∈ TBL) => hts0 w (List.mem_cons_of_mem _ h)
  have hown : s.vm.findClass RX9 = some m.cls := findClass_of_methodNamed B.named
  have hlocks := B.notSynchronized
  have hN := hE.1
  subst hsz
  have hD := hD0.self (sz := s.heap.size)
  generalize hAe : va_A [(a0, .inr (8, [.int a0_0, .int a0_1, .int a0_2, .int a0_3, .ref a0_4, .int a0_5, .int a0_6, .int a0_7, .int a0_8, .int a0_9, .int a0_10, .long a0_11, .int a0_12, .int a0_13, .int a0_14, .int a0_15, .int a0_16, .int a0_17, .ref a0_18, .ref a0_19, .ref a0_20, .ref a0_21, .ref a0_22, .ref a0_23, .ref a0_24, .ref a0_25, .ref a0_26, .ref a0_27, .ref a0_28, .ref a0_29, .ref a0_30, .ref a0_31, .ref a0_32, .ref a0_33, .ref a0_34, .ref a0_35, .long a0_36, .int a0_37, .ref a0_38, .ref a0_39, .int a0_40, .ref a0_41, .ref a0_42, .ref a0_43])), (a0_4, .inl (a0_4_c, 1000, .inl a0_4_f))] s.heap.size = A at hD hE ⊢
  have hA : ∀ q : Nat, s.heap.size ≤ q → A q := fun q h => by rw [← hAe]; exact Or.inr h
  have hS : va_S A s.heap s.heap [] := va_S.rf
  replace hP : va_P (dC, dI) vwCl [(a0, .inr (8, [.int a0_0, .int a0_1, .int a0_2, .int a0_3, .ref a0_4, .int a0_5, .int a0_6, .int a0_7, .int a0_8, .int a0_9, .int a0_10, .long a0_11, .int a0_12, .int a0_13, .int a0_14, .int a0_15, .int a0_16, .int a0_17, .ref a0_18, .ref a0_19, .ref a0_20, .ref a0_21, .ref a0_22, .ref a0_23, .ref a0_24, .ref a0_25, .ref a0_26, .ref a0_27, .ref a0_28, .ref a0_29, .ref a0_30, .ref a0_31, .ref a0_32, .ref a0_33, .ref a0_34, .ref a0_35, .long a0_36, .int a0_37, .ref a0_38, .ref a0_39, .int a0_40, .ref a0_41, .ref a0_42, .ref a0_43])), (a0_4, .inl (a0_4_c, 1000, .inl a0_4_f))] s.heap := hP
  have hl := lv_entry ([.ref a0]) (n := 3) (Nat.le_of_ble_eq_true rfl)
  rw [lg_entry_eq]
  generalize (lg_sl ([.ref a0]) ++ List.replicate (3 - (lg_sl ([.ref a0])).length) Slot.unset).toArray = ls at hl ⊢
  have hl : lv_has ls 3 [(0, .ref a0)] := hl
  have b_a0_0 := i32b a0_0
  have b_a0_1 := i32b a0_1
  have b_a0_2 := i32b a0_2
  have b_a0_3 := i32b a0_3
  have b_a0_9 := i32b a0_9
  have b_a0_10 := i32b a0_10
  have b_a0_12 := i32b a0_12
  have b_a0_13 := i32b a0_13
  have b_a0_14 := i32b a0_14
  have b_a0_15 := i32b a0_15
  have b_a0_16 := i32b a0_16
  refine lv_aload_n hx hb dX9_takesDate_0 rfl (lv_at hl 0 rfl) ?_
  refine lv_aload_n hx hb dX9_takesDate_1 rfl (lv_at hl 0 rfl) ?_
  refine va_get (D := (dC, dI)) (ci := 8) (v := .int a0_7) (C := RX9) (T := TX9) (N := 44) hx hb hts inlX9 hown hK hP 0 rgL2_5ac5f51 rfl 7 (by decide) (hts (.fieldLink RX9 154 "ClosedUntilModel" "from" "I") qw_416) (fun _ h9 => h9) rfl dX9_takesDate_2 ?_
  refine va_put (D := (dC, dI)) (ci := 8) (v := .int a0_7) (ty := .int) (C := RX9) (T := TX9) (N := 44) hx hb hts inlX9 tyX9 tyX9_ok nmX9 hown hK hP hD hS 0 rgL2_5ac5f51 rfl 16 (by decide) (hts (.fieldLink RX9 246 "ClosedUntilModel" "datePlace" "I") qw_476) (fun _ h9 => h9) rfl (by decide +kernel) rfl rfl (Nat.le_of_ble_eq_true rfl) dX9_takesDate_5 (fun H locs hP9 hD9 hS9 => ?_)
  clear hP hD hS
  obtain ⟨hP, hD⟩ := rgS2_40109d0 (e := (a0, .inr (8, [.int a0_0, .int a0_1, .int a0_2, .int a0_3, .ref a0_4, .int a0_5, .int a0_6, .int a0_7, .int a0_8, .int a0_9, .int a0_10, .long a0_11, .int a0_12, .int a0_13, .int a0_14, .int a0_15, .int a0_7, .int a0_17, .ref a0_18, .ref a0_19, .ref a0_20, .ref a0_21, .ref a0_22, .ref a0_23, .ref a0_24, .ref a0_25, .ref a0_26, .ref a0_27, .ref a0_28, .ref a0_29, .ref a0_30, .ref a0_31, .ref a0_32, .ref a0_33, .ref a0_34, .ref a0_35, .long a0_36, .int a0_37, .ref a0_38, .ref a0_39, .int a0_40, .ref a0_41, .ref a0_42, .ref a0_43]))) hP9 hD9 rfl
  have hS := hS9; clear hP9 hD9 hS9
  refine lv_aload_n hx hb dX9_takesDate_8 rfl (lv_at hl 0 rfl) ?_
  refine lv_sipush (v := 1700) hx hb dX9_takesDate_9 (by decide) ?_
  refine lv_sipush (v := 2299) hx hb dX9_takesDate_12 (by decide) ?_
  have qc1700 : (1700 : Int32).toInt = 1700 := by decide
  have qc2299 : (2299 : Int32).toInt = 2299 := by decide
  have hPc := hP
  have hKc := hK
  have hDc := hD
  have hFc := freeW hDc hS hA
  refine va_calli (va_runV (As := [.int 1700, .int 2299]) (rest := []) ⟨hx, hb, hml, hown, hts⟩ (k_X9_takesNumber l dC dI g H.size (a0) (1700) (2299) (a0_0) (a0_1) (a0_2) (a0_3) (a0_4) (a0_5) (a0_6) (a0_7) (a0_8) (a0_9) (a0_10) (a0_11) (a0_12) (a0_13) (a0_14) (a0_15) (a0_7) (a0_17) (a0_18) (a0_19) (a0_20) (a0_21) (a0_22) (a0_23) (a0_24) (a0_25) (a0_26) (a0_27) (a0_28) (a0_29) (a0_30) (a0_31) (a0_32) (a0_33) (a0_34) (a0_35) (a0_36) (a0_37) (a0_38) (a0_39) (a0_40) (a0_41) (a0_42) (a0_43) (a0_4_c) (a0_4_f) (by omega) (by omega) (by omega) (by omega) (by omega) (by omega) (by omega)) (cwV 2 hts (gwV qw_478 qw_479 qw_480 qw_386 qw_477) rfl rfl rfl (by decide +kernel) ⟨Nat.le_of_ble_eq_true rfl, Nat.le_of_ble_eq_true rfl⟩) ⟨fun a U g9 mk q => ⟨q.1, q.2.1, q.2.2.1, va_K.moved (u := U) (U := U.calling g9 mk a) (Vm.Alike.refl U.vm) q.2.2.2.1, q.2.2.2.2.1, Ev.bl q.2.2.2.2.2⟩, va_recv hK hP (ci := 8) (q0 := 0) rfl rgL2_5ac5f51, fun U hU hW => ⟨rfl, by rw [hU], atB hU hPc, va_K.moved hW.alike hKc, hDc.weaken (fun _ _ _ _ => trivial), hE.go hS hFc hU hW⟩⟩ rfl rfl hl.1 rfl (lv_room (Nat.le_of_ble_eq_true rfl)) dX9_takesDate_15 ⟨Nat.le_of_ble_eq_true rfl, Nat.le_of_ble_eq_true rfl⟩) hS (fun q _ h => hFc q h) hFc (fun r2 u1 t H1 locs ht hvm h_u1 hB hz1 hk1 hS => ?_)
  obtain ⟨za0_7_3, za0_8_4, za0_9_5, za0_10_6, za0_11_7, za0_12_8, za0_13_9, za0_14_10, hF11, hF12, hF13, hP1, hK1, hD1⟩ := hB
  have hK1 := va_K.moved hvm.symm hK1
  have hJ9 := rgJ2_9775942 hP hD hk1 hFc (atH ht hP1) hD1
  clear hP hD hPc hKc hDc hFc hP1 hD1 hk1 hz1
  obtain ⟨hP, hD⟩ := hJ9
  clear hK1
  generalize H1 = H at hP hS ⊢
  refine W.widen (k := 0) (n := 0) (Nat.le_of_ble_eq_true rfl) (Nat.le_of_ble_eq_true rfl) ?_
  have h_r2 := congrArg Int32.toInt h_u1
  have hz_r2 : r2 = 0 ∨ r2 = 1 := h_u1 ▸ hF13
  have b_r2 := z01 hz_r2
  refine lv_if_ne (tgt := 23) hx hb dX9_takesDate_18 (by decide) (fun c18_14 => ?_) (fun c18_14 => ?_)
  · have c18_14 : ¬ (r2.toInt = 0) := mt (cv_eq rfl (by decide)).mpr c18_14
    refine lv_aload_n hx hb dX9_takesDate_23 rfl (lv_at hl 0 rfl) ?_
    refine va_get (D := (dC, dI)) (ci := 8) (v := .int za0_14_10) (C := RX9) (T := TX9) (N := 44) hx hb hts inlX9 hown hK hP 0 rgL2_5ac5f51 rfl 14 (by decide) (hts (.fieldLink RX9 243 "ClosedUntilModel" "numberHere" "I") qw_475) (fun _ h9 => h9) rfl dX9_takesDate_24 ?_
    refine lv_istore_n (lv' := [(1, .int za0_14_10), (0, .ref a0)]) hx hb dX9_takesDate_27 rfl hl (by decide) rfl (fun ls hl => ?_)
    refine lv_aload_n hx hb dX9_takesDate_28 rfl (lv_at hl 1 rfl) ?_
    refine lv_iconst (v := 1) hx hb dX9_takesDate_29 (by decide) ?_
    refine lv_bipush (v := 12) hx hb dX9_takesDate_30 (by decide) ?_
    have qc1 : (1 : Int32).toInt = 1 := by decide
    have qc12 : (12 : Int32).toInt = 12 := by decide
    have hPc := hP
    have hKc := hK
    have hDc := hD
    have hFc := freeW hDc hS hA
    refine va_calli (va_runV (As := [.int 1, .int 12]) (rest := []) ⟨hx, hb, hml, hown, hts⟩ (k_X9_takesNumber l dC dI g H.size (a0) (1) (12) (a0_0) (a0_1) (a0_2) (a0_3) (a0_4) (a0_5) (a0_6) (za0_7_3) (za0_8_4) (za0_9_5) (za0_10_6) (za0_11_7) (za0_12_8) (za0_13_9) (za0_14_10) (a0_15) (a0_7) (a0_17) (a0_18) (a0_19) (a0_20) (a0_21) (a0_22) (a0_23) (a0_24) (a0_25) (a0_26) (a0_27) (a0_28) (a0_29) (a0_30) (a0_31) (a0_32) (a0_33) (a0_34) (a0_35) (a0_36) (a0_37) (a0_38) (a0_39) (a0_40) (a0_41) (a0_42) (a0_43) (a0_4_c) (a0_4_f) (by omega) (by omega) (by omega) (by omega) (by omega) (by omega) (by omega)) (cwV 2 hts (gwV qw_478 qw_479 qw_480 qw_386 qw_477) rfl rfl rfl (by decide +kernel) ⟨Nat.le_of_ble_eq_true rfl, Nat.le_of_ble_eq_true rfl⟩) ⟨fun a U g9 mk q => ⟨q.1, q.2.1, q.2.2.1, va_K.moved (u := U) (U := U.calling g9 mk a) (Vm.Alike.refl U.vm) q.2.2.2.1, q.2.2.2.2.1, Ev.bl q.2.2.2.2.2⟩, va_recv hK hP (ci := 8) (q0 := 0) rfl rgL2_5ac5f51, fun U hU hW => ⟨rfl, by rw [hU], atB hU hPc, va_K.moved hW.alike hKc, hDc.weaken (fun _ _ _ _ => trivial), hE.go hS hFc hU hW⟩⟩ rfl rfl hl.1 rfl (lv_room (Nat.le_of_ble_eq_true rfl)) dX9_takesDate_32 ⟨Nat.le_of_ble_eq_true rfl, Nat.le_of_ble_eq_true rfl⟩) hS (fun q _ h => hFc q h) hFc (fun r16 u15 t H1 locs ht hvm h_u15 hB hz1 hk1 hS => ?_)
    obtain ⟨za0_7_17, za0_8_18, za0_9_19, za0_10_20, za0_11_21, za0_12_22, za0_13_23, za0_14_24, hF25, hF26, hF27, hP1, hK1, hD1⟩ := hB
    have hK1 := va_K.moved hvm.symm hK1
    have hJ9 := rgJ2_9775942 hP hD hk1 hFc (atH ht hP1) hD1
    clear hP hD hPc hKc hDc hFc hP1 hD1 hk1 hz1
    obtain ⟨hP, hD⟩ := hJ9
    clear hK1
    generalize H1 = H at hP hS ⊢
    refine W.widen (k := 0) (n := 0) (Nat.le_of_ble_eq_true rfl) (Nat.le_of_ble_eq_true rfl) ?_
    have h_r16 := congrArg Int32.toInt h_u15
    have hz_r16 : r16 = 0 ∨ r16 = 1 := h_u15 ▸ hF27
    have b_r16 := z01 hz_r16
    refine lv_if_ne (tgt := 40) hx hb dX9_takesDate_35 (by decide) (fun c35_28 => ?_) (fun c35_28 => ?_)
    · have c35_28 : ¬ (r16.toInt = 0) := mt (cv_eq rfl (by decide)).mpr c35_28
      refine lv_aload_n hx hb dX9_takesDate_40 rfl (lv_at hl 1 rfl) ?_
      refine va_get (D := (dC, dI)) (ci := 8) (v := .int za0_14_24) (C := RX9) (T := TX9) (N := 44) hx hb hts inlX9 hown hK hP 0 rgL2_5ac5f51 rfl 14 (by decide) (hts (.fieldLink RX9 243 "ClosedUntilModel" "numberHere" "I") qw_475) (fun _ h9 => h9) rfl dX9_takesDate_41 ?_
      refine lv_istore_n (lv' := [(2, .int za0_14_24), (1, .int za0_14_10), (0, .ref a0)]) hx hb dX9_takesDate_44 rfl hl (by decide) rfl (fun ls hl => ?_)
      refine lv_aload_n hx hb dX9_takesDate_45 rfl (lv_at hl 2 rfl) ?_
      refine lv_iconst (v := 1) hx hb dX9_takesDate_46 (by decide) ?_
      refine lv_iload_n hx hb dX9_takesDate_47 rfl (lv_at hl 1 rfl) ?_
      refine lv_iload_n hx hb dX9_takesDate_48 rfl (lv_at hl 0 rfl) ?_
      have hPc := (rgP2_6c9046d hP)
      have hKc := (rgK1_f3b3254 hK)
      refine vp_callSi ((va_runS (As := [.int za0_14_10, .int za0_14_24]) (rest := [.int 1, .ref a0]) ⟨hx, hb, hml, hown, hts⟩ (k_X9_daysIn l dC dI g (za0_14_10) (za0_14_24) ) (va_cwS 2 hts (gwS qw_393 qw_394 qw_386 qw_392) rfl rfl rfl (by decide +kernel) ⟨Nat.le_of_ble_eq_true rfl, Nat.le_of_ble_eq_true rfl⟩) ⟨fun a U g9 mk q => ⟨q.1, q.2.1, va_K.moved (u := U) (U := U.calling g9 mk a) (Vm.Alike.refl U.vm) q.2.2.1, Ev.bl q.2.2.2⟩, fun U hU hW => ⟨rfl, atB hU hPc, va_K.moved hW.alike hKc, hE.go hS (fun _ h => h.elim) hU hW⟩⟩ rfl rfl hl.1 rfl (lv_room (Nat.le_of_ble_eq_true rfl)) dX9_takesDate_49 ⟨Nat.le_of_ble_eq_true rfl, Nat.le_of_ble_eq_true rfl⟩)).run (fun r29 h_r29 => ?_)
      have h_r29 : (28 ≤ r29.toInt ∧ r29.toInt ≤ 31) := h_r29
      have qc1 : (1 : Int32).toInt = 1 := by decide
      have hPc := hP
      have hKc := hK
      have hDc := hD
      have hFc := freeW hDc hS hA
      refine va_calli (va_runV (As := [.int 1, .int r29]) (rest := []) ⟨hx, hb, hml, hown, hts⟩ (k_X9_takesNumber l dC dI g H.size (a0) (1) (r29) (a0_0) (a0_1) (a0_2) (a0_3) (a0_4) (a0_5) (a0_6) (za0_7_17) (za0_8_18) (za0_9_19) (za0_10_20) (za0_11_21) (za0_12_22) (za0_13_23) (za0_14_24) (a0_15) (a0_7) (a0_17) (a0_18) (a0_19) (a0_20) (a0_21) (a0_22) (a0_23) (a0_24) (a0_25) (a0_26) (a0_27) (a0_28) (a0_29) (a0_30) (a0_31) (a0_32) (a0_33) (a0_34) (a0_35) (a0_36) (a0_37) (a0_38) (a0_39) (a0_40) (a0_41) (a0_42) (a0_43) (a0_4_c) (a0_4_f) (by omega) (by omega) (by omega) (by omega) (by omega) (by omega) (by omega)) (cwV 2 hts (gwV qw_478 qw_479 qw_480 qw_386 qw_477) rfl rfl rfl (by decide +kernel) ⟨Nat.le_of_ble_eq_true rfl, Nat.le_of_ble_eq_true rfl⟩) ⟨fun a U g9 mk q => ⟨q.1, q.2.1, q.2.2.1, va_K.moved (u := U) (U := U.calling g9 mk a) (Vm.Alike.refl U.vm) q.2.2.2.1, q.2.2.2.2.1, Ev.bl q.2.2.2.2.2⟩, va_recv hK hP (ci := 8) (q0 := 0) rfl rgL2_5ac5f51, fun U hU hW => ⟨rfl, by rw [hU], atB hU hPc, va_K.moved hW.alike hKc, hDc.weaken (fun _ _ _ _ => trivial), hE.go hS hFc hU hW⟩⟩ rfl rfl hl.1 rfl (lv_room (Nat.le_of_ble_eq_true rfl)) dX9_takesDate_52 ⟨Nat.le_of_ble_eq_true rfl, Nat.le_of_ble_eq_true rfl⟩) hS (fun q _ h => hFc q h) hFc (fun r31 u30 t H1 locs ht hvm h_u30 hB hz1 hk1 hS => ?_)
      obtain ⟨za0_7_32, za0_8_33, za0_9_34, za0_10_35, za0_11_36, za0_12_37, za0_13_38, za0_14_39, hF40, hF41, hF42, hP1, hK1, hD1⟩ := hB
      have hK1 := va_K.moved hvm.symm hK1
      have hJ9 := rgJ2_9775942 hP hD hk1 hFc (atH ht hP1) hD1
      clear hP hD hPc hKc hDc hFc hP1 hD1 hk1 hz1
      obtain ⟨hP, hD⟩ := hJ9
      clear hK1
      generalize H1 = H at hP hS ⊢
      refine W.widen (k := 0) (n := 0) (Nat.le_of_ble_eq_true rfl) (Nat.le_of_ble_eq_true rfl) ?_
      have h_r31 := congrArg Int32.toInt h_u30
      have hz_r31 : r31 = 0 ∨ r31 = 1 := h_u30 ▸ hF42
      have b_r31 := z01 hz_r31
      refine lv_if_ne (tgt := 60) hx hb dX9_takesDate_55 (by decide) (fun c55_43 => ?_) (fun c55_43 => ?_)
      · have c55_43 : ¬ (r31.toInt = 0) := mt (cv_eq rfl (by decide)).mpr c55_43
        refine lv_aload_n hx hb dX9_takesDate_60 rfl (lv_at hl 2 rfl) ?_
        refine lv_iload_n hx hb dX9_takesDate_61 rfl (lv_at hl 1 rfl) ?_
        refine lv_iload_n hx hb dX9_takesDate_62 rfl (lv_at hl 0 rfl) ?_
        refine lv_aload_n hx hb dX9_takesDate_63 rfl (lv_at hl 2 rfl) ?_
        refine va_get (D := (dC, dI)) (ci := 8) (v := .int za0_14_39) (C := RX9) (T := TX9) (N := 44) hx hb hts inlX9 hown hK hP 0 rgL2_5ac5f51 rfl 14 (by decide) (hts (.fieldLink RX9 243 "ClosedUntilModel" "numberHere" "I") qw_475) (fun _ h9 => h9) rfl dX9_takesDate_64 ?_
        have hPc := (rgP2_6c9046d hP)
        have hKc := (rgK1_f3b3254 hK)
        refine vp_callSi ((va_runS (As := [.int za0_14_10, .int za0_14_24, .int za0_14_39]) (rest := [.ref a0]) ⟨hx, hb, hml, hown, hts⟩ (k_X9_dayOf l dC dI g (za0_14_10) (za0_14_24) (za0_14_39) ) (va_cwS 3 hts (gwS qw_404 qw_405 qw_386 qw_403) rfl rfl rfl (by decide +kernel) ⟨Nat.le_of_ble_eq_true rfl, Nat.le_of_ble_eq_true rfl⟩) ⟨fun a U g9 mk q => ⟨q.1, q.2.1, va_K.moved (u := U) (U := U.calling g9 mk a) (Vm.Alike.refl U.vm) q.2.2.1, Ev.bl q.2.2.2⟩, fun U hU hW => ⟨rfl, atB hU hPc, va_K.moved hW.alike hKc, hE.go hS (fun _ h => h.elim) hU hW⟩⟩ rfl rfl hl.1 rfl (lv_room (Nat.le_of_ble_eq_true rfl)) dX9_takesDate_67 ⟨Nat.le_of_ble_eq_true rfl, Nat.le_of_ble_eq_true rfl⟩)).run (fun r44 h_r44 => ?_)
        have b_r44 := i32b r44
        refine va_put (D := (dC, dI)) (ci := 8) (v := .int r44) (ty := .int) (C := RX9) (T := TX9) (N := 44) hx hb hts inlX9 tyX9 tyX9_ok nmX9 hown hK hP hD hS 0 rgL2_5ac5f51 rfl 15 (by decide) (hts (.fieldLink RX9 253 "ClosedUntilModel" "dateHere" "I") qw_481) (fun _ h9 => h9) rfl (by decide +kernel) rfl rfl (Nat.le_of_ble_eq_true rfl) dX9_takesDate_70 (fun H locs hP9 hD9 hS9 => ?_)
        clear hP hD hS
        obtain ⟨hP, hD⟩ := rgS2_40109d0 (e := (a0, .inr (8, [.int a0_0, .int a0_1, .int a0_2, .int a0_3, .ref a0_4, .int a0_5, .int a0_6, .int za0_7_32, .int za0_8_33, .int za0_9_34, .int za0_10_35, .long za0_11_36, .int za0_12_37, .int za0_13_38, .int za0_14_39, .int r44, .int a0_7, .int a0_17, .ref a0_18, .ref a0_19, .ref a0_20, .ref a0_21, .ref a0_22, .ref a0_23, .ref a0_24, .ref a0_25, .ref a0_26, .ref a0_27, .ref a0_28, .ref a0_29, .ref a0_30, .ref a0_31, .ref a0_32, .ref a0_33, .ref a0_34, .ref a0_35, .long a0_36, .int a0_37, .ref a0_38, .ref a0_39, .int a0_40, .ref a0_41, .ref a0_42, .ref a0_43]))) hP9 hD9 rfl
        have hS := hS9; clear hP9 hD9 hS9
        refine lv_iconst (v := 1) hx hb dX9_takesDate_73 (by decide) ?_
        have qc1 : (1 : Int32).toInt = 1 := by decide
        refine W.widen (k := 0) (n := 0) (Nat.le_of_ble_eq_true rfl) (Nat.le_of_ble_eq_true rfl) ?_
        have hP9 := hP
        have hD9 := hD
        have hK9 := (rgK1_f3b3254 hK)
        have hf9_0 : (0 ≤ za0_7_32.toInt ∧ za0_7_32.toInt ≤ 1000) := by omega
        have hf9_1 : (0 ≤ za0_8_33.toInt ∧ za0_8_33.toInt ≤ 1000) := by omega
        have hf9_2 : ((1 : Int32) = 0 ∨ (1 : Int32) = 1) := (by decide)
        exact W.zret (v := 1) hx hb hr rfl (fun t ht hW => ⟨⟨1, 1, rfl, rfl, za0_7_32, za0_8_33, za0_9_34, za0_10_35, za0_11_36, za0_12_37, za0_13_38, za0_14_39, r44, a0_7, hf9_0, hf9_1, hf9_2, atB ht hP9, va_K.moved hW.alike hK9, hD9⟩, hS.F ht⟩) hS.2.2 dX9_takesDate_74
      · have c55_43 : r31.toInt = 0 := (cv_eq rfl (by decide)).mp c55_43
        refine lv_iconst (v := 0) hx hb dX9_takesDate_58 (by decide) ?_
        have qc0 : (0 : Int32).toInt = 0 := by decide
        refine W.widen (k := 0) (n := 0) (Nat.le_of_ble_eq_true rfl) (Nat.le_of_ble_eq_true rfl) ?_
        have hP9 := hP
        have hD9 := hD
        have hK9 := (rgK1_f3b3254 hK)
        have hf9_0 : (0 ≤ za0_7_32.toInt ∧ za0_7_32.toInt ≤ 1000) := by omega
        have hf9_1 : (0 ≤ za0_8_33.toInt ∧ za0_8_33.toInt ≤ 1000) := by omega
        have hf9_2 : ((0 : Int32) = 0 ∨ (0 : Int32) = 1) := (by decide)
        exact W.zret (v := 0) hx hb hr rfl (fun t ht hW => ⟨⟨0, 0, rfl, rfl, za0_7_32, za0_8_33, za0_9_34, za0_10_35, za0_11_36, za0_12_37, za0_13_38, za0_14_39, a0_15, a0_7, hf9_0, hf9_1, hf9_2, atB ht hP9, va_K.moved hW.alike hK9, hD9⟩, hS.F ht⟩) hS.2.2 dX9_takesDate_59
    · have c35_28 : r16.toInt = 0 := (cv_eq rfl (by decide)).mp c35_28
      refine lv_iconst (v := 0) hx hb dX9_takesDate_38 (by decide) ?_
      have qc0 : (0 : Int32).toInt = 0 := by decide
      refine W.widen (k := 0) (n := 0) (Nat.le_of_ble_eq_true rfl) (Nat.le_of_ble_eq_true rfl) ?_
      have hP9 := hP
      have hD9 := hD
      have hK9 := (rgK1_f3b3254 hK)
      have hf9_0 : (0 ≤ za0_7_17.toInt ∧ za0_7_17.toInt ≤ 1000) := by omega
      have hf9_1 : (0 ≤ za0_8_18.toInt ∧ za0_8_18.toInt ≤ 1000) := by omega
      have hf9_2 : ((0 : Int32) = 0 ∨ (0 : Int32) = 1) := (by decide)
      exact W.zret (v := 0) hx hb hr rfl (fun t ht hW => ⟨⟨0, 0, rfl, rfl, za0_7_17, za0_8_18, za0_9_19, za0_10_20, za0_11_21, za0_12_22, za0_13_23, za0_14_24, a0_15, a0_7, hf9_0, hf9_1, hf9_2, atB ht hP9, va_K.moved hW.alike hK9, hD9⟩, hS.F ht⟩) hS.2.2 dX9_takesDate_39
  · have c18_14 : r2.toInt = 0 := (cv_eq rfl (by decide)).mp c18_14
    refine lv_iconst (v := 0) hx hb dX9_takesDate_21 (by decide) ?_
    have qc0 : (0 : Int32).toInt = 0 := by decide
    refine W.widen (k := 0) (n := 0) (Nat.le_of_ble_eq_true rfl) (Nat.le_of_ble_eq_true rfl) ?_
    have hP9 := hP
    have hD9 := hD
    have hK9 := (rgK1_f3b3254 hK)
    have hf9_0 : (0 ≤ za0_7_3.toInt ∧ za0_7_3.toInt ≤ 1000) := by omega
    have hf9_1 : (0 ≤ za0_8_4.toInt ∧ za0_8_4.toInt ≤ 1000) := by omega
    have hf9_2 : ((0 : Int32) = 0 ∨ (0 : Int32) = 1) := (by decide)
    exact W.zret (v := 0) hx hb hr rfl (fun t ht hW => ⟨⟨0, 0, rfl, rfl, za0_7_3, za0_8_4, za0_9_5, za0_10_6, za0_11_7, za0_12_8, za0_13_9, za0_14_10, a0_15, a0_7, hf9_0, hf9_1, hf9_2, atB ht hP9, va_K.moved hW.alike hK9, hD9⟩, hS.F ht⟩) hS.2.2 dX9_takesDate_22
set_option maxHeartbeats 4000000 in
set_option maxRecDepth 100000 in
theorem k_X9_newName (l : Launch) (dC : Nat → ClassId) (dI : Nat → Nat → Nat) (g : Gv) (sz : Nat) (a0 : Nat) (a0_0 : Int32) (a0_1 : Int32) (a0_2 : Int32) (a0_3 : Int32) (a0_4 : Nat) (a0_5 : Int32) (a0_6 : Int32) (a0_7 : Int32) (a0_8 : Int32) (a0_9 : Int32) (a0_10 : Int32) (a0_11 : Int64) (a0_12 : Int32) (a0_13 : Int32) (a0_14 : Int32) (a0_15 : Int32) (a0_16 : Int32) (a0_17 : Int32) (a0_18 : Nat) (a0_19 : Nat) (a0_20 : Nat) (a0_21 : Nat) (a0_22 : Nat) (a0_23 : Nat) (a0_24 : Nat) (a0_25 : Nat) (a0_26 : Nat) (a0_27 : Nat) (a0_28 : Nat) (a0_29 : Nat) (a0_30 : Nat) (a0_31 : Nat) (a0_32 : Nat) (a0_33 : Nat) (a0_34 : Nat) (a0_35 : Nat) (a0_36 : Int64) (a0_37 : Int32) (a0_38 : Nat) (a0_39 : Nat) (a0_40 : Int32) (a0_41 : Nat) (a0_42 : Nat) (a0_43 : Nat) (a0_4_c : ClassId) (a0_4_f : Nat → Int32) (a0_18_c : ClassId) (a0_18_f : Nat → Int32) (a0_19_c : ClassId) (a0_19_f : Nat → Int32) (a0_20_c : ClassId) (a0_20_f : Nat → Int32) (a0_22_c : ClassId) (a0_22_f : Nat → Int64) (a0_25_c : ClassId) (a0_25_f : Nat → Int64) (a0_27_c : ClassId) (a0_27_f : Nat → Int64) (h_a0_5 : 0 ≤ a0_5.toInt ∧ a0_5.toInt ≤ 1000) (h_a0_6 : 0 ≤ a0_6.toInt ∧ a0_6.toInt ≤ 1000) (h_a0_7 : 0 ≤ a0_7.toInt ∧ a0_7.toInt ≤ 1000) (h_a0_8 : 0 ≤ a0_8.toInt ∧ a0_8.toInt ≤ 1000) (h_a0_17 : 0 ≤ a0_17.toInt ∧ a0_17.toInt ≤ 1) (h_a0_37 : (-1) ≤ a0_37.toInt ∧ a0_37.toInt ≤ 23) (h_a0_40 : 0 ≤ a0_40.toInt ∧ a0_40.toInt ≤ 12) (h_a0_18_f : vr 0 8 a0_18_f) (h_a0_19_f : vr 0 4 a0_19_f) (h_a0_20_f : vr 0 24 a0_20_f) : Met l yX9_newName (.code yX9_newName cX9_newName 1 (some .boolean) :: TBL) ({ frames := 8, cells := 0, slots := 0, locals := 244 }) (va_Pc [.ref a0] (fun U => U.heap.size = sz ∧ va_P (dC, dI) vwCl [(a0, .inr (8, [.int a0_0, .int a0_1, .int a0_2, .int a0_3, .ref a0_4, .int a0_5, .int a0_6, .int a0_7, .int a0_8, .int a0_9, .int a0_10, .long a0_11, .int a0_12, .int a0_13, .int a0_14, .int a0_15, .int a0_16, .int a0_17, .ref a0_18, .ref a0_19, .ref a0_20, .ref a0_21, .ref a0_22, .ref a0_23, .ref a0_24, .ref a0_25, .ref a0_26, .ref a0_27, .ref a0_28, .ref a0_29, .ref a0_30, .ref a0_31, .ref a0_32, .ref a0_33, .ref a0_34, .ref a0_35, .long a0_36, .int a0_37, .ref a0_38, .ref a0_39, .int a0_40, .ref a0_41, .ref a0_42, .ref a0_43])), (a0_4, .inl (a0_4_c, 1000, .inl a0_4_f)), (a0_18, .inl (a0_18_c, 2, .inl a0_18_f)), (a0_19, .inl (a0_19_c, 2, .inl a0_19_f)), (a0_20, .inl (a0_20_c, 2, .inl a0_20_f)), (a0_22, .inl (a0_22_c, 16, .inr (.inl a0_22_f))), (a0_25, .inl (a0_25_c, 8, .inr (.inl a0_25_f))), (a0_27, .inl (a0_27_c, 48, .inr (.inl a0_27_f)))] U.heap ∧ va_K (dC, dI) vwCl [(a0_4_c, .byte), (a0_18_c, .int), (a0_19_c, .int), (a0_20_c, .int), (a0_22_c, .long), (a0_25_c, .long), (a0_27_c, .long)] U ∧ va_D (fun _ => True) [(a0, .inr (8, [.int a0_0, .int a0_1, .int a0_2, .int a0_3, .ref a0_4, .int a0_5, .int a0_6, .int a0_7, .int a0_8, .int a0_9, .int a0_10, .long a0_11, .int a0_12, .int a0_13, .int a0_14, .int a0_15, .int a0_16, .int a0_17, .ref a0_18, .ref a0_19, .ref a0_20, .ref a0_21, .ref a0_22, .ref a0_23, .ref a0_24, .ref a0_25, .ref a0_26, .ref a0_27, .ref a0_28, .ref a0_29, .ref a0_30, .ref a0_31, .ref a0_32, .ref a0_33, .ref a0_34, .ref a0_35, .long a0_36, .int a0_37, .ref a0_38, .ref a0_39, .int a0_40, .ref a0_41, .ref a0_42, .ref a0_43])), (a0_4, .inl (a0_4_c, 1000, .inl a0_4_f)), (a0_18, .inl (a0_18_c, 2, .inl a0_18_f)), (a0_19, .inl (a0_19_c, 2, .inl a0_19_f)), (a0_20, .inl (a0_20_c, 2, .inl a0_20_f)), (a0_22, .inl (a0_22_c, 16, .inr (.inl a0_22_f))), (a0_25, .inl (a0_25_c, 8, .inr (.inl a0_25_f))), (a0_27, .inl (a0_27_c, 48, .inr (.inl a0_27_f)))] ∧ Ev g (va_A [(a0, .inr (8, [.int a0_0, .int a0_1, .int a0_2, .int a0_3, .ref a0_4, .int a0_5, .int a0_6, .int a0_7, .int a0_8, .int a0_9, .int a0_10, .long a0_11, .int a0_12, .int a0_13, .int a0_14, .int a0_15, .int a0_16, .int a0_17, .ref a0_18, .ref a0_19, .ref a0_20, .ref a0_21, .ref a0_22, .ref a0_23, .ref a0_24, .ref a0_25, .ref a0_26, .ref a0_27, .ref a0_28, .ref a0_29, .ref a0_30, .ref a0_31, .ref a0_32, .ref a0_33, .ref a0_34, .ref a0_35, .long a0_36, .int a0_37, .ref a0_38, .ref a0_39, .int a0_40, .ref a0_41, .ref a0_42, .ref a0_43])), (a0_4, .inl (a0_4_c, 1000, .inl a0_4_f)), (a0_18, .inl (a0_18_c, 2, .inl a0_18_f)), (a0_19, .inl (a0_19_c, 2, .inl a0_19_f)), (a0_20, .inl (a0_20_c, 2, .inl a0_20_f)), (a0_22, .inl (a0_22_c, 16, .inr (.inl a0_22_f))), (a0_25, .inl (a0_25_c, 8, .inr (.inl a0_25_f))), (a0_27, .inl (a0_27_c, 48, .inr (.inl a0_27_f)))] sz) U)) (va_Qi (fun (r : Int32) (u : Int32) => u = r) (fun (u : Int32) (t : State) => ∃ (za0_7 : Int32) (za0_8 : Int32) (za0_9 : Int32) (za0_10 : Int32) (za0_11 : Int64) (za0_12 : Int32) (za0_13 : Int32) (za0_36 : Int64), (0 ≤ za0_7.toInt ∧ za0_7.toInt ≤ 1000) ∧ (0 ≤ za0_8.toInt ∧ za0_8.toInt ≤ 1000) ∧ (u = 0 ∨ u = 1) ∧ va_P (dC, dI) vwCl [(a0, .inr (8, [.int a0_0, .int a0_1, .int a0_2, .int a0_3, .ref a0_4, .int a0_5, .int a0_6, .int za0_7, .int za0_8, .int za0_9, .int za0_10, .long za0_11, .int za0_12, .int za0_13, .int a0_14, .int a0_15, .int a0_16, .int a0_17, .ref a0_18, .ref a0_19, .ref a0_20, .ref a0_21, .ref a0_22, .ref a0_23, .ref a0_24, .ref a0_25, .ref a0_26, .ref a0_27, .ref a0_28, .ref a0_29, .ref a0_30, .ref a0_31, .ref a0_32, .ref a0_33, .ref a0_34, .ref a0_35, .long za0_36, .int a0_37, .ref a0_38, .ref a0_39, .int a0_40, .ref a0_41, .ref a0_42, .ref a0_43])), (a0_4, .inl (a0_4_c, 1000, .inl a0_4_f)), (a0_18, .inl (a0_18_c, 2, .inl a0_18_f)), (a0_19, .inl (a0_19_c, 2, .inl a0_19_f)), (a0_20, .inl (a0_20_c, 2, .inl a0_20_f)), (a0_22, .inl (a0_22_c, 16, .inr (.inl a0_22_f))), (a0_25, .inl (a0_25_c, 8, .inr (.inl a0_25_f))), (a0_27, .inl (a0_27_c, 48, .inr (.inl a0_27_f)))] t.heap ∧ va_K (dC, dI) vwCl [] t ∧ va_D (va_A [(a0, .inr (8, [.int a0_0, .int a0_1, .int a0_2, .int a0_3, .ref a0_4, .int a0_5, .int a0_6, .int a0_7, .int a0_8, .int a0_9, .int a0_10, .long a0_11, .int a0_12, .int a0_13, .int a0_14, .int a0_15, .int a0_16, .int a0_17, .ref a0_18, .ref a0_19, .ref a0_20, .ref a0_21, .ref a0_22, .ref a0_23, .ref a0_24, .ref a0_25, .ref a0_26, .ref a0_27, .ref a0_28, .ref a0_29, .ref a0_30, .ref a0_31, .ref a0_32, .ref a0_33, .ref a0_34, .ref a0_35, .long a0_36, .int a0_37, .ref a0_38, .ref a0_39, .int a0_40, .ref a0_41, .ref a0_42, .ref a0_43])), (a0_4, .inl (a0_4_c, 1000, .inl a0_4_f)), (a0_18, .inl (a0_18_c, 2, .inl a0_18_f)), (a0_19, .inl (a0_19_c, 2, .inl a0_19_f)), (a0_20, .inl (a0_20_c, 2, .inl a0_20_f)), (a0_22, .inl (a0_22_c, 16, .inr (.inl a0_22_f))), (a0_25, .inl (a0_25_c, 8, .inr (.inl a0_25_f))), (a0_27, .inl (a0_27_c, 48, .inr (.inl a0_27_f)))] sz) [(a0, .inr (8, [.int a0_0, .int a0_1, .int a0_2, .int a0_3, .ref a0_4, .int a0_5, .int a0_6, .int za0_7, .int za0_8, .int za0_9, .int za0_10, .long za0_11, .int za0_12, .int za0_13, .int a0_14, .int a0_15, .int a0_16, .int a0_17, .ref a0_18, .ref a0_19, .ref a0_20, .ref a0_21, .ref a0_22, .ref a0_23, .ref a0_24, .ref a0_25, .ref a0_26, .ref a0_27, .ref a0_28, .ref a0_29, .ref a0_30, .ref a0_31, .ref a0_32, .ref a0_33, .ref a0_34, .ref a0_35, .long za0_36, .int a0_37, .ref a0_38, .ref a0_39, .int a0_40, .ref a0_41, .ref a0_42, .ref a0_43])), (a0_4, .inl (a0_4_c, 1000, .inl a0_4_f)), (a0_18, .inl (a0_18_c, 2, .inl a0_18_f)), (a0_19, .inl (a0_19_c, 2, .inl a0_19_f)), (a0_20, .inl (a0_20_c, 2, .inl a0_20_f)), (a0_22, .inl (a0_22_c, 16, .inr (.inl a0_22_f))), (a0_25, .inl (a0_25_c, 8, .inr (.inl a0_25_f))), (a0_27, .inl (a0_27_c, 48, .inr (.inl a0_27_f)))]) (va_A [(a0, .inr (8, [.int a0_0, .int a0_1, .int a0_2, .int a0_3, .ref a0_4, .int a0_5, .int a0_6, .int a0_7, .int a0_8, .int a0_9, .int a0_10, .long a0_11, .int a0_12, .int a0_13, .int a0_14, .int a0_15, .int a0_16, .int a0_17, .ref a0_18, .ref a0_19, .ref a0_20, .ref a0_21, .ref a0_22, .ref a0_23, .ref a0_24, .ref a0_25, .ref a0_26, .ref a0_27, .ref a0_28, .ref a0_29, .ref a0_30, .ref a0_31, .ref a0_32, .ref a0_33, .ref a0_34, .ref a0_35, .long a0_36, .int a0_37, .ref a0_38, .ref a0_39, .int a0_40, .ref a0_41, .ref a0_42, .ref a0_43])), (a0_4, .inl (a0_4_c, 1000, .inl a0_4_f)), (a0_18, .inl (a0_18_c, 2, .inl a0_18_f)), (a0_19, .inl (a0_19_c, 2, .inl a0_19_f)), (a0_20, .inl (a0_20_c, 2, .inl a0_20_f)), (a0_22, .inl (a0_22_c, 16, .inr (.inl a0_22_f))), (a0_25, .inl (a0_25_c, 8, .inr (.inl a0_25_f))), (a0_27, .inl (a0_27_c, 48, .inr (.inl a0_27_f)))] sz)) 0 0 (va_A [(a0, .inr (8, [.int a0_0, .int a0_1, .int a0_2, .int a0_3, .ref a0_4, .int a0_5, .int a0_6, .int a0_7, .int a0_8, .int a0_9, .int a0_10, .long a0_11, .int a0_12, .int a0_13, .int a0_14, .int a0_15, .int a0_16, .int a0_17, .ref a0_18, .ref a0_19, .ref a0_20, .ref a0_21, .ref a0_22, .ref a0_23, .ref a0_24, .ref a0_25, .ref a0_26, .ref a0_27, .ref a0_28, .ref a0_29, .ref a0_30, .ref a0_31, .ref a0_32, .ref a0_33, .ref a0_34, .ref a0_35, .long a0_36, .int a0_37, .ref a0_38, .ref a0_39, .int a0_40, .ref a0_41, .ref a0_42, .ref a0_43])), (a0_4, .inl (a0_4_c, 1000, .inl a0_4_f)), (a0_18, .inl (a0_18_c, 2, .inl a0_18_f)), (a0_19, .inl (a0_19_c, 2, .inl a0_19_f)), (a0_20, .inl (a0_20_c, 2, .inl a0_20_f)), (a0_22, .inl (a0_22_c, 16, .inr (.inl a0_22_f))), (a0_25, .inl (a0_25_c, 8, .inr (.inl a0_25_f))), (a0_27, .inl (a0_27_c, 48, .inr (.inl a0_27_f)))] sz) := by
  refine Met.ofW (cc := cX9_newName) (maxL := 1) (ret := (some .boolean)) (by decide) rfl ?_
  intro p e s m args below meth c s₁ B hml hv
  obtain ⟨rfl, hsz, hP, hK, hD0, hE⟩ := hv
  have hx := B.exec
  have hb := B.bytes
  have hr := B.returns
  have hts0 := atoms_spec (ws := (.code yX9_newName cX9_newName 1 (some .boolean) :: TBL)) B.pre
  have hts := fun (w : Cond) (h : w ∈ TBL) => hts0 w (List.mem_cons_of_mem _ h)
  have hown : s.vm.findClass RX9 = some m.cls := findClass_of_methodNamed B.named
  have hlocks := B.notSynchronized
  have hN := hE.1
  subst hsz
  have hD := hD0.self (sz := s.heap.size)
  generalize hAe : va_A [(a0, .inr (8, [.int a0_0, .int a0_1, .int a0_2, .int a0_3, .ref a0_4, .int a0_5, .int a0_6, .int a0_7, .int a0_8, .int a0_9, .int a0_10, .long a0_11, .int a0_12, .int a0_13, .int a0_14, .int a0_15, .int a0_16, .int a0_17, .ref a0_18, .ref a0_19, .ref a0_20, .ref a0_21, .ref a0_22, .ref a0_23, .ref a0_24, .ref a0_25, .ref a0_26, .ref a0_27, .ref a0_28, .ref a0_29, .ref a0_30, .ref a0_31, .ref a0_32, .ref a0_33, .ref a0_34, .ref a0_35, .long a0_36, .int a0_37, .ref a0_38, .ref a0_39, .int a0_40, .ref a0_41, .ref a0_42, .ref a0_43])), (a0_4, .inl (a0_4_c, 1000, .inl a0_4_f)), (a0_18, .inl (a0_18_c, 2, .inl a0_18_f)), (a0_19, .inl (a0_19_c, 2, .inl a0_19_f)), (a0_20, .inl (a0_20_c, 2, .inl a0_20_f)), (a0_22, .inl (a0_22_c, 16, .inr (.inl a0_22_f))), (a0_25, .inl (a0_25_c, 8, .inr (.inl a0_25_f))), (a0_27, .inl (a0_27_c, 48, .inr (.inl a0_27_f)))] s.heap.size = A at hD hE ⊢
  have hA : ∀ q : Nat, s.heap.size ≤ q → A q := fun q h => by rw [← hAe]; exact Or.inr h
  have hS : va_S A s.heap s.heap [] := va_S.rf
  replace hP : va_P (dC, dI) vwCl [(a0, .inr (8, [.int a0_0, .int a0_1, .int a0_2, .int a0_3, .ref a0_4, .int a0_5, .int a0_6, .int a0_7, .int a0_8, .int a0_9, .int a0_10, .long a0_11, .int a0_12, .int a0_13, .int a0_14, .int a0_15, .int a0_16, .int a0_17, .ref a0_18, .ref a0_19, .ref a0_20, .ref a0_21, .ref a0_22, .ref a0_23, .ref a0_24, .ref a0_25, .ref a0_26, .ref a0_27, .ref a0_28, .ref a0_29, .ref a0_30, .ref a0_31, .ref a0_32, .ref a0_33, .ref a0_34, .ref a0_35, .long a0_36, .int a0_37, .ref a0_38, .ref a0_39, .int a0_40, .ref a0_41, .ref a0_42, .ref a0_43])), (a0_4, .inl (a0_4_c, 1000, .inl a0_4_f)), (a0_18, .inl (a0_18_c, 2, .inl a0_18_f)), (a0_19, .inl (a0_19_c, 2, .inl a0_19_f)), (a0_20, .inl (a0_20_c, 2, .inl a0_20_f)), (a0_22, .inl (a0_22_c, 16, .inr (.inl a0_22_f))), (a0_25, .inl (a0_25_c, 8, .inr (.inl a0_25_f))), (a0_27, .inl (a0_27_c, 48, .inr (.inl a0_27_f)))] s.heap := hP
  have hl := lv_entry ([.ref a0]) (n := 1) (Nat.le_of_ble_eq_true rfl)
  rw [lg_entry_eq]
  generalize (lg_sl ([.ref a0]) ++ List.replicate (1 - (lg_sl ([.ref a0])).length) Slot.unset).toArray = ls at hl ⊢
  have hl : lv_has ls 1 [(0, .ref a0)] := hl
  have b_a0_0 := i32b a0_0
  have b_a0_1 := i32b a0_1
  have b_a0_2 := i32b a0_2
  have b_a0_3 := i32b a0_3
  have b_a0_9 := i32b a0_9
  have b_a0_10 := i32b a0_10
  have b_a0_12 := i32b a0_12
  have b_a0_13 := i32b a0_13
  have b_a0_14 := i32b a0_14
  have b_a0_15 := i32b a0_15
  have b_a0_16 := i32b a0_16
  refine lv_aload_n hx hb dX9_newName_0 rfl (lv_at hl 0 rfl) ?_
  refine lv_aload_n hx hb dX9_newName_1 rfl (lv_at hl 0 rfl) ?_
  have hPc := (rgP8_82ce498 hP)
  have hKc := (rgK7_1b59772 hK)
  refine vp_callSi ((va_runV (As := []) (rest := [.ref a0]) ⟨hx, hb, hml, hown, hts⟩ (k_X9_isName l dC dI g (a0) (a0_0) (a0_1) (a0_2) (a0_3) (a0_4) (a0_5) (a0_6) (a0_7) (a0_8) (a0_9) (a0_10) (a0_11) (a0_12) (a0_13) (a0_14) (a0_15) (a0_16) (a0_17) (a0_18) (a0_19) (a0_20) (a0_21) (a0_22) (a0_23) (a0_24) (a0_25) (a0_26) (a0_27) (a0_28) (a0_29) (a0_30) (a0_31) (a0_32) (a0_33) (a0_34) (a0_35) (a0_36) (a0_37) (a0_38) (a0_39) (a0_40) (a0_41) (a0_42) (a0_43) (by omega) (by omega) (by omega) (by omega) (by omega) (by omega) (by omega)) (cwV 0 hts (gwV qw_483 qw_484 qw_485 qw_386 qw_482) rfl rfl rfl (by decide +kernel) ⟨Nat.le_of_ble_eq_true rfl, Nat.le_of_ble_eq_true rfl⟩) ⟨fun a U g9 mk q => ⟨q.1, q.2.1, va_K.moved (u := U) (U := U.calling g9 mk a) (Vm.Alike.refl U.vm) q.2.2.1, Ev.bl q.2.2.2⟩, va_recv hK hP (ci := 8) (q0 := 0) rfl rgL8_41f41bf, fun U hU hW => ⟨rfl, atB hU hPc, va_K.moved hW.alike hKc, hE.go hS (fun _ h => h.elim) hU hW⟩⟩ rfl rfl hl.1 rfl (lv_room (Nat.le_of_ble_eq_true rfl)) dX9_newName_2 ⟨Nat.le_of_ble_eq_true rfl, Nat.le_of_ble_eq_true rfl⟩)).run (fun r1 h_r1 => ?_)
  have h_r1 : (r1 = 0 ∨ r1 = 1) := h_r1
  have b_r1 := z01 (show r1 = 0 ∨ r1 = 1 from h_r1)
  refine lv_iconst (v := 1) hx hb dX9_newName_5 (by decide) ?_
  have qc1 : (1 : Int32).toInt = 1 := by decide
  have hPc := (rgP8_82ce498 hP)
  have hKc := (rgK7_1b59772 hK)
  have hDc := (rgD8_dd76439 hD)
  have hFc := freeW hDc hS hA
  refine va_calli (va_runV (As := [.int r1, .int 1]) (rest := []) ⟨hx, hb, hml, hown, hts⟩ (k_X9_must l dC dI g s.heap.size (a0) (r1) (1) (a0_0) (a0_1) (a0_2) (a0_3) (a0_4) (a0_5) (a0_6) (a0_7) (a0_8) (a0_9) (a0_10) (a0_11) (a0_12) (a0_13) (a0_14) (a0_15) (a0_16) (a0_17) (a0_18) (a0_19) (a0_20) (a0_21) (a0_22) (a0_23) (a0_24) (a0_25) (a0_26) (a0_27) (a0_28) (a0_29) (a0_30) (a0_31) (a0_32) (a0_33) (a0_34) (a0_35) (a0_36) (a0_37) (a0_38) (a0_39) (a0_40) (a0_41) (a0_42) (a0_43) (by omega) (by omega) (by omega) (by omega) (by omega) (by omega) (by omega) (by omega)) (cwV 2 hts (gwV qw_472 qw_473 qw_474 qw_386 qw_471) rfl rfl rfl (by decide +kernel) ⟨Nat.le_of_ble_eq_true rfl, Nat.le_of_ble_eq_true rfl⟩) ⟨fun a U g9 mk q => ⟨q.1, q.2.1, q.2.2.1, va_K.moved (u := U) (U := U.calling g9 mk a) (Vm.Alike.refl U.vm) q.2.2.2.1, q.2.2.2.2.1, Ev.bl q.2.2.2.2.2⟩, va_recv hK hP (ci := 8) (q0 := 0) rfl rgL8_41f41bf, fun U hU hW => ⟨rfl, by rw [hU], atB hU hPc, va_K.moved hW.alike hKc, hDc.weaken (fun _ _ _ _ => trivial), hE.go hS hFc hU hW⟩⟩ rfl rfl hl.1 rfl (lv_room (Nat.le_of_ble_eq_true rfl)) dX9_newName_6 ⟨Nat.le_of_ble_eq_true rfl, Nat.le_of_ble_eq_true rfl⟩) hS (fun q _ h => hFc q h) hFc (fun r3 u2 t H1 locs ht hvm h_u2 hB hz1 hk1 hS => ?_)
  obtain ⟨za0_12_4, za0_13_5, hF6, hF7, hP1, hK1, hD1⟩ := hB
  have hK1 := va_K.moved hvm.symm hK1
  have hJ9 := rgJ8_3415f12 hP hD hk1 hFc (atH ht hP1) hD1
  clear hP hD hPc hKc hDc hFc hP1 hD1 hk1 hz1
  obtain ⟨hP, hD⟩ := hJ9
  clear hK1
  generalize H1 = H at hP hS ⊢
  refine W.widen (k := 0) (n := 0) (Nat.le_of_ble_eq_true rfl) (Nat.le_of_ble_eq_true rfl) ?_
  have h_r3 := congrArg Int32.toInt h_u2
  have hz_r3 : r3 = 0 ∨ r3 = 1 := h_u2 ▸ hF6
  have b_r3 := z01 hz_r3
  refine lv_if_eq (tgt := 46) hx hb dX9_newName_9 (by decide) (fun c9_8 => ?_) (fun c9_8 => ?_)
  · have c9_8 : r3.toInt = 0 := (cv_eq rfl (by decide)).mp c9_8
    refine lv_iconst (v := 0) hx hb dX9_newName_46 (by decide) ?_
    have qc0 : (0 : Int32).toInt = 0 := by decide
    refine W.widen (k := 0) (n := 0) (Nat.le_of_ble_eq_true rfl) (Nat.le_of_ble_eq_true rfl) ?_
    have hP9 := hP
    have hD9 := hD
    have hK9 := (rgK7_1b59772 hK)
    have hf9_0 : (0 ≤ a0_7.toInt ∧ a0_7.toInt ≤ 1000) := by omega
    have hf9_1 : (0 ≤ a0_8.toInt ∧ a0_8.toInt ≤ 1000) := by omega
    have hf9_2 : ((0 : Int32) = 0 ∨ (0 : Int32) = 1) := (by decide)
    exact W.zret (v := 0) hx hb hr rfl (fun t ht hW => ⟨⟨0, 0, rfl, rfl, a0_7, a0_8, a0_9, a0_10, a0_11, za0_12_4, za0_13_5, a0_36, hf9_0, hf9_1, hf9_2, atB ht hP9, va_K.moved hW.alike hK9, hD9⟩, hS.F ht⟩) hS.2.2 dX9_newName_47
  · have c9_8 : ¬ (r3.toInt = 0) := mt (cv_eq rfl (by decide)).mpr c9_8
    refine lv_aload_n hx hb dX9_newName_12 rfl (lv_at hl 0 rfl) ?_
    refine lv_aload_n hx hb dX9_newName_13 rfl (lv_at hl 0 rfl) ?_
    have hPc := (rgP8_1ed3a8d hP)
    have hKc := (rgK7_194e198 hK)
    refine vp_callSi ((va_runV (As := []) (rest := [.ref a0]) ⟨hx, hb, hml, hown, hts⟩ (k_X9_personNamed l dC dI g (a0) (a0_0) (a0_1) (a0_2) (a0_3) (a0_4) (a0_5) (a0_6) (a0_7) (a0_8) (a0_9) (a0_10) (a0_11) (za0_12_4) (za0_13_5) (a0_14) (a0_15) (a0_16) (a0_17) (a0_18) (a0_19) (a0_20) (a0_21) (a0_22) (a0_23) (a0_24) (a0_25) (a0_26) (a0_27) (a0_28) (a0_29) (a0_30) (a0_31) (a0_32) (a0_33) (a0_34) (a0_35) (a0_36) (a0_37) (a0_38) (a0_39) (a0_40) (a0_41) (a0_42) (a0_43) (a0_18_c) (a0_18_f) (a0_22_c) (a0_22_f) (by omega) (by omega) (by omega) (by omega) (by omega) (by omega) (by omega) h_a0_18_f) (cwV 0 hts (gwV qw_487 qw_488 qw_489 qw_386 qw_486) rfl rfl rfl (by decide +kernel) ⟨Nat.le_of_ble_eq_true rfl, Nat.le_of_ble_eq_true rfl⟩) ⟨fun a U g9 mk q => ⟨q.1, q.2.1, va_K.moved (u := U) (U := U.calling g9 mk a) (Vm.Alike.refl U.vm) q.2.2.1, Ev.bl q.2.2.2⟩, va_recv hK hP (ci := 8) (q0 := 0) rfl rgL8_41f41bf, fun U hU hW => ⟨rfl, atB hU hPc, va_K.moved hW.alike hKc, hE.go hS (fun _ h => h.elim) hU hW⟩⟩ rfl rfl hl.1 rfl (lv_room (Nat.le_of_ble_eq_true rfl)) dX9_newName_14 ⟨Nat.le_of_ble_eq_true rfl, Nat.le_of_ble_eq_true rfl⟩)).run (fun r9 h_r9 => ?_)
    have h_r9 : (-1 ≤ r9.toInt ∧ r9.toInt < (a0_18_f a0_17.toNatClampNeg).toInt) := h_r9
    have b_r9 := i32b r9
    refine lv_if_ge (tgt := 38) hx hb dX9_newName_17 (by decide) (fun c17_10 => ?_) (fun c17_10 => ?_)
    · have c17_10 : 0 ≤ r9.toInt := (cv_le (by decide) rfl).mp c17_10
      refine lv_iconst (v := 0) hx hb dX9_newName_38 (by decide) ?_
      refine lv_iconst (v := 2) hx hb dX9_newName_39 (by decide) ?_
      have qc0 : (0 : Int32).toInt = 0 := by decide
      have qc2 : (2 : Int32).toInt = 2 := by decide
      have hPc := (rgP8_82ce498 hP)
      have hKc := (rgK7_1b59772 hK)
      have hDc := (rgD8_dd76439 hD)
      have hFc := freeW hDc hS hA
      refine va_calli (va_runV (As := [.int 0, .int 2]) (rest := []) ⟨hx, hb, hml, hown, hts⟩ (k_X9_must l dC dI g H.size (a0) (0) (2) (a0_0) (a0_1) (a0_2) (a0_3) (a0_4) (a0_5) (a0_6) (a0_7) (a0_8) (a0_9) (a0_10) (a0_11) (za0_12_4) (za0_13_5) (a0_14) (a0_15) (a0_16) (a0_17) (a0_18) (a0_19) (a0_20) (a0_21) (a0_22) (a0_23) (a0_24) (a0_25) (a0_26) (a0_27) (a0_28) (a0_29) (a0_30) (a0_31) (a0_32) (a0_33) (a0_34) (a0_35) (a0_36) (a0_37) (a0_38) (a0_39) (a0_40) (a0_41) (a0_42) (a0_43) (by omega) (by omega) (by omega) (by omega) (by omega) (by omega) (by omega) (by omega)) (cwV 2 hts (gwV qw_472 qw_473 qw_474 qw_386 qw_471) rfl rfl rfl (by decide +kernel) ⟨Nat.le_of_ble_eq_true rfl, Nat.le_of_ble_eq_true rfl⟩) ⟨fun a U g9 mk q => ⟨q.1, q.2.1, q.2.2.1, va_K.moved (u := U) (U := U.calling g9 mk a) (Vm.Alike.refl U.vm) q.2.2.2.1, q.2.2.2.2.1, Ev.bl q.2.2.2.2.2⟩, va_recv hK hP (ci := 8) (q0 := 0) rfl rgL8_41f41bf, fun U hU hW => ⟨rfl, by rw [hU], atB hU hPc, va_K.moved hW.alike hKc, hDc.weaken (fun _ _ _ _ => trivial), hE.go hS hFc hU hW⟩⟩ rfl rfl hl.1 rfl (lv_room (Nat.le_of_ble_eq_true rfl)) dX9_newName_40 ⟨Nat.le_of_ble_eq_true rfl, Nat.le_of_ble_eq_true rfl⟩) hS (fun q _ h => hFc q h) hFc (fun r12 u11 t H1 locs ht hvm h_u11 hB hz1 hk1 hS => ?_)
      obtain ⟨za0_12_13, za0_13_14, hF15, hF16, hP1, hK1, hD1⟩ := hB
      have hK1 := va_K.moved hvm.symm hK1
      have hJ9 := rgJ8_3415f12 hP hD hk1 hFc (atH ht hP1) hD1
      clear hP hD hPc hKc hDc hFc hP1 hD1 hk1 hz1
      obtain ⟨hP, hD⟩ := hJ9
      clear hK1
      generalize H1 = H at hP hS ⊢
      refine W.widen (k := 0) (n := 0) (Nat.le_of_ble_eq_true rfl) (Nat.le_of_ble_eq_true rfl) ?_
      have h_r12 := congrArg Int32.toInt h_u11
      have hz_r12 : r12 = 0 ∨ r12 = 1 := h_u11 ▸ hF15
      have b_r12 := z01 hz_r12
      refine cst (v := 0) (Int32.toInt_inj.mp (by rw [show (0 : Int32).toInt = 0 by decide]; omega)) ?_
      refine lv_if_ne (tgt := 48) hx hb dX9_newName_43 (by decide) (fun c43_17 => by exfalso; exact absurd c43_17 (by decide)) (fun c43_17 => ?_)
      refine lv_iconst (v := 0) hx hb dX9_newName_46 (by decide) ?_
      have qc0 : (0 : Int32).toInt = 0 := by decide
      refine W.widen (k := 0) (n := 0) (Nat.le_of_ble_eq_true rfl) (Nat.le_of_ble_eq_true rfl) ?_
      have hP9 := hP
      have hD9 := hD
      have hK9 := (rgK7_1b59772 hK)
      have hf9_0 : (0 ≤ a0_7.toInt ∧ a0_7.toInt ≤ 1000) := by omega
      have hf9_1 : (0 ≤ a0_8.toInt ∧ a0_8.toInt ≤ 1000) := by omega
      have hf9_2 : ((0 : Int32) = 0 ∨ (0 : Int32) = 1) := (by decide)
      exact W.zret (v := 0) hx hb hr rfl (fun t ht hW => ⟨⟨0, 0, rfl, rfl, a0_7, a0_8, a0_9, a0_10, a0_11, za0_12_13, za0_13_14, a0_36, hf9_0, hf9_1, hf9_2, atB ht hP9, va_K.moved hW.alike hK9, hD9⟩, hS.F ht⟩) hS.2.2 dX9_newName_47
    · have c17_10 : ¬ (0 ≤ r9.toInt) := mt (cv_le (by decide) rfl).mpr c17_10
      refine lv_aload_n hx hb dX9_newName_20 rfl (lv_at hl 0 rfl) ?_
      have hPc := (rgP8_d78cbf3 hP)
      have hKc := (rgK7_5853438 hK)
      refine vp_callSi ((va_runV (As := []) (rest := [.ref a0]) ⟨hx, hb, hml, hown, hts⟩ (k_X9_depositNamed l dC dI g (a0) (a0_0) (a0_1) (a0_2) (a0_3) (a0_4) (a0_5) (a0_6) (a0_7) (a0_8) (a0_9) (a0_10) (a0_11) (za0_12_4) (za0_13_5) (a0_14) (a0_15) (a0_16) (a0_17) (a0_18) (a0_19) (a0_20) (a0_21) (a0_22) (a0_23) (a0_24) (a0_25) (a0_26) (a0_27) (a0_28) (a0_29) (a0_30) (a0_31) (a0_32) (a0_33) (a0_34) (a0_35) (a0_36) (a0_37) (a0_38) (a0_39) (a0_40) (a0_41) (a0_42) (a0_43) (a0_19_c) (a0_19_f) (a0_25_c) (a0_25_f) (by omega) (by omega) (by omega) (by omega) (by omega) (by omega) (by omega) h_a0_19_f) (cwV 0 hts (gwV qw_491 qw_492 qw_493 qw_386 qw_490) rfl rfl rfl (by decide +kernel) ⟨Nat.le_of_ble_eq_true rfl, Nat.le_of_ble_eq_true rfl⟩) ⟨fun a U g9 mk q => ⟨q.1, q.2.1, va_K.moved (u := U) (U := U.calling g9 mk a) (Vm.Alike.refl U.vm) q.2.2.1, Ev.bl q.2.2.2⟩, va_recv hK hP (ci := 8) (q0 := 0) rfl rgL8_41f41bf, fun U hU hW => ⟨rfl, atB hU hPc, va_K.moved hW.alike hKc, hE.go hS (fun _ h => h.elim) hU hW⟩⟩ rfl rfl hl.1 rfl (lv_room (Nat.le_of_ble_eq_true rfl)) dX9_newName_21 ⟨Nat.le_of_ble_eq_true rfl, Nat.le_of_ble_eq_true rfl⟩)).run (fun r18 h_r18 => ?_)
      have h_r18 : (-1 ≤ r18.toInt ∧ r18.toInt < (a0_19_f a0_17.toNatClampNeg).toInt) := h_r18
      have b_r18 := i32b r18
      refine lv_if_ge (tgt := 38) hx hb dX9_newName_24 (by decide) (fun c24_19 => ?_) (fun c24_19 => ?_)
      · have c24_19 : 0 ≤ r18.toInt := (cv_le (by decide) rfl).mp c24_19
        refine lv_iconst (v := 0) hx hb dX9_newName_38 (by decide) ?_
        refine lv_iconst (v := 2) hx hb dX9_newName_39 (by decide) ?_
        have qc0 : (0 : Int32).toInt = 0 := by decide
        have qc2 : (2 : Int32).toInt = 2 := by decide
        have hPc := (rgP8_82ce498 hP)
        have hKc := (rgK7_1b59772 hK)
        have hDc := (rgD8_dd76439 hD)
        have hFc := freeW hDc hS hA
        refine va_calli (va_runV (As := [.int 0, .int 2]) (rest := []) ⟨hx, hb, hml, hown, hts⟩ (k_X9_must l dC dI g H.size (a0) (0) (2) (a0_0) (a0_1) (a0_2) (a0_3) (a0_4) (a0_5) (a0_6) (a0_7) (a0_8) (a0_9) (a0_10) (a0_11) (za0_12_4) (za0_13_5) (a0_14) (a0_15) (a0_16) (a0_17) (a0_18) (a0_19) (a0_20) (a0_21) (a0_22) (a0_23) (a0_24) (a0_25) (a0_26) (a0_27) (a0_28) (a0_29) (a0_30) (a0_31) (a0_32) (a0_33) (a0_34) (a0_35) (a0_36) (a0_37) (a0_38) (a0_39) (a0_40) (a0_41) (a0_42) (a0_43) (by omega) (by omega) (by omega) (by omega) (by omega) (by omega) (by omega) (by omega)) (cwV 2 hts (gwV qw_472 qw_473 qw_474 qw_386 qw_471) rfl rfl rfl (by decide +kernel) ⟨Nat.le_of_ble_eq_true rfl, Nat.le_of_ble_eq_true rfl⟩) ⟨fun a U g9 mk q => ⟨q.1, q.2.1, q.2.2.1, va_K.moved (u := U) (U := U.calling g9 mk a) (Vm.Alike.refl U.vm) q.2.2.2.1, q.2.2.2.2.1, Ev.bl q.2.2.2.2.2⟩, va_recv hK hP (ci := 8) (q0 := 0) rfl rgL8_41f41bf, fun U hU hW => ⟨rfl, by rw [hU], atB hU hPc, va_K.moved hW.alike hKc, hDc.weaken (fun _ _ _ _ => trivial), hE.go hS hFc hU hW⟩⟩ rfl rfl hl.1 rfl (lv_room (Nat.le_of_ble_eq_true rfl)) dX9_newName_40 ⟨Nat.le_of_ble_eq_true rfl, Nat.le_of_ble_eq_true rfl⟩) hS (fun q _ h => hFc q h) hFc (fun r21 u20 t H1 locs ht hvm h_u20 hB hz1 hk1 hS => ?_)
        obtain ⟨za0_12_22, za0_13_23, hF24, hF25, hP1, hK1, hD1⟩ := hB
        have hK1 := va_K.moved hvm.symm hK1
        have hJ9 := rgJ8_3415f12 hP hD hk1 hFc (atH ht hP1) hD1
        clear hP hD hPc hKc hDc hFc hP1 hD1 hk1 hz1
        obtain ⟨hP, hD⟩ := hJ9
        clear hK1
        generalize H1 = H at hP hS ⊢
        refine W.widen (k := 0) (n := 0) (Nat.le_of_ble_eq_true rfl) (Nat.le_of_ble_eq_true rfl) ?_
        have h_r21 := congrArg Int32.toInt h_u20
        have hz_r21 : r21 = 0 ∨ r21 = 1 := h_u20 ▸ hF24
        have b_r21 := z01 hz_r21
        refine cst (v := 0) (Int32.toInt_inj.mp (by rw [show (0 : Int32).toInt = 0 by decide]; omega)) ?_
        refine lv_if_ne (tgt := 48) hx hb dX9_newName_43 (by decide) (fun c43_26 => by exfalso; exact absurd c43_26 (by decide)) (fun c43_26 => ?_)
        refine lv_iconst (v := 0) hx hb dX9_newName_46 (by decide) ?_
        have qc0 : (0 : Int32).toInt = 0 := by decide
        refine W.widen (k := 0) (n := 0) (Nat.le_of_ble_eq_true rfl) (Nat.le_of_ble_eq_true rfl) ?_
        have hP9 := hP
        have hD9 := hD
        have hK9 := (rgK7_1b59772 hK)
        have hf9_0 : (0 ≤ a0_7.toInt ∧ a0_7.toInt ≤ 1000) := by omega
        have hf9_1 : (0 ≤ a0_8.toInt ∧ a0_8.toInt ≤ 1000) := by omega
        have hf9_2 : ((0 : Int32) = 0 ∨ (0 : Int32) = 1) := (by decide)
        exact W.zret (v := 0) hx hb hr rfl (fun t ht hW => ⟨⟨0, 0, rfl, rfl, a0_7, a0_8, a0_9, a0_10, a0_11, za0_12_22, za0_13_23, a0_36, hf9_0, hf9_1, hf9_2, atB ht hP9, va_K.moved hW.alike hK9, hD9⟩, hS.F ht⟩) hS.2.2 dX9_newName_47
      · have c24_19 : ¬ (0 ≤ r18.toInt) := mt (cv_le (by decide) rfl).mpr c24_19
        refine lv_aload_n hx hb dX9_newName_27 rfl (lv_at hl 0 rfl) ?_
        have hPc := (rgP8_1569325 hP)
        have hKc := (rgK7_cd7aae6 hK)
        refine vp_callSi ((va_runV (As := []) (rest := [.ref a0]) ⟨hx, hb, hml, hown, hts⟩ (k_X9_pieceNamed l dC dI g (a0) (a0_0) (a0_1) (a0_2) (a0_3) (a0_4) (a0_5) (a0_6) (a0_7) (a0_8) (a0_9) (a0_10) (a0_11) (za0_12_4) (za0_13_5) (a0_14) (a0_15) (a0_16) (a0_17) (a0_18) (a0_19) (a0_20) (a0_21) (a0_22) (a0_23) (a0_24) (a0_25) (a0_26) (a0_27) (a0_28) (a0_29) (a0_30) (a0_31) (a0_32) (a0_33) (a0_34) (a0_35) (a0_36) (a0_37) (a0_38) (a0_39) (a0_40) (a0_41) (a0_42) (a0_43) (a0_20_c) (a0_20_f) (a0_27_c) (a0_27_f) (by omega) (by omega) (by omega) (by omega) (by omega) (by omega) (by omega) h_a0_20_f) (cwV 0 hts (gwV qw_495 qw_496 qw_497 qw_386 qw_494) rfl rfl rfl (by decide +kernel) ⟨Nat.le_of_ble_eq_true rfl, Nat.le_of_ble_eq_true rfl⟩) ⟨fun a U g9 mk q => ⟨q.1, q.2.1, va_K.moved (u := U) (U := U.calling g9 mk a) (Vm.Alike.refl U.vm) q.2.2.1, Ev.bl q.2.2.2⟩, va_recv hK hP (ci := 8) (q0 := 0) rfl rgL8_41f41bf, fun U hU hW => ⟨rfl, atB hU hPc, va_K.moved hW.alike hKc, hE.go hS (fun _ h => h.elim) hU hW⟩⟩ rfl rfl hl.1 rfl (lv_room (Nat.le_of_ble_eq_true rfl)) dX9_newName_28 ⟨Nat.le_of_ble_eq_true rfl, Nat.le_of_ble_eq_true rfl⟩)).run (fun r27 h_r27 => ?_)
        have h_r27 : (-1 ≤ r27.toInt ∧ r27.toInt < (a0_20_f a0_17.toNatClampNeg).toInt) := h_r27
        have b_r27 := i32b r27
        refine lv_if_ge (tgt := 38) hx hb dX9_newName_31 (by decide) (fun c31_28 => ?_) (fun c31_28 => ?_)
        · have c31_28 : 0 ≤ r27.toInt := (cv_le (by decide) rfl).mp c31_28
          refine lv_iconst (v := 0) hx hb dX9_newName_38 (by decide) ?_
          refine lv_iconst (v := 2) hx hb dX9_newName_39 (by decide) ?_
          have qc0 : (0 : Int32).toInt = 0 := by decide
          have qc2 : (2 : Int32).toInt = 2 := by decide
          have hPc := (rgP8_82ce498 hP)
          have hKc := (rgK7_1b59772 hK)
          have hDc := (rgD8_dd76439 hD)
          have hFc := freeW hDc hS hA
          refine va_calli (va_runV (As := [.int 0, .int 2]) (rest := []) ⟨hx, hb, hml, hown, hts⟩ (k_X9_must l dC dI g H.size (a0) (0) (2) (a0_0) (a0_1) (a0_2) (a0_3) (a0_4) (a0_5) (a0_6) (a0_7) (a0_8) (a0_9) (a0_10) (a0_11) (za0_12_4) (za0_13_5) (a0_14) (a0_15) (a0_16) (a0_17) (a0_18) (a0_19) (a0_20) (a0_21) (a0_22) (a0_23) (a0_24) (a0_25) (a0_26) (a0_27) (a0_28) (a0_29) (a0_30) (a0_31) (a0_32) (a0_33) (a0_34) (a0_35) (a0_36) (a0_37) (a0_38) (a0_39) (a0_40) (a0_41) (a0_42) (a0_43) (by omega) (by omega) (by omega) (by omega) (by omega) (by omega) (by omega) (by omega)) (cwV 2 hts (gwV qw_472 qw_473 qw_474 qw_386 qw_471) rfl rfl rfl (by decide +kernel) ⟨Nat.le_of_ble_eq_true rfl, Nat.le_of_ble_eq_true rfl⟩) ⟨fun a U g9 mk q => ⟨q.1, q.2.1, q.2.2.1, va_K.moved (u := U) (U := U.calling g9 mk a) (Vm.Alike.refl U.vm) q.2.2.2.1, q.2.2.2.2.1, Ev.bl q.2.2.2.2.2⟩, va_recv hK hP (ci := 8) (q0 := 0) rfl rgL8_41f41bf, fun U hU hW => ⟨rfl, by rw [hU], atB hU hPc, va_K.moved hW.alike hKc, hDc.weaken (fun _ _ _ _ => trivial), hE.go hS hFc hU hW⟩⟩ rfl rfl hl.1 rfl (lv_room (Nat.le_of_ble_eq_true rfl)) dX9_newName_40 ⟨Nat.le_of_ble_eq_true rfl, Nat.le_of_ble_eq_true rfl⟩) hS (fun q _ h => hFc q h) hFc (fun r30 u29 t H1 locs ht hvm h_u29 hB hz1 hk1 hS => ?_)
          obtain ⟨za0_12_31, za0_13_32, hF33, hF34, hP1, hK1, hD1⟩ := hB
          have hK1 := va_K.moved hvm.symm hK1
          have hJ9 := rgJ8_3415f12 hP hD hk1 hFc (atH ht hP1) hD1
          clear hP hD hPc hKc hDc hFc hP1 hD1 hk1 hz1
          obtain ⟨hP, hD⟩ := hJ9
          clear hK1
          generalize H1 = H at hP hS ⊢
          refine W.widen (k := 0) (n := 0) (Nat.le_of_ble_eq_true rfl) (Nat.le_of_ble_eq_true rfl) ?_
          have h_r30 := congrArg Int32.toInt h_u29
          have hz_r30 : r30 = 0 ∨ r30 = 1 := h_u29 ▸ hF33
          have b_r30 := z01 hz_r30
          refine cst (v := 0) (Int32.toInt_inj.mp (by rw [show (0 : Int32).toInt = 0 by decide]; omega)) ?_
          refine lv_if_ne (tgt := 48) hx hb dX9_newName_43 (by decide) (fun c43_35 => by exfalso; exact absurd c43_35 (by decide)) (fun c43_35 => ?_)
          refine lv_iconst (v := 0) hx hb dX9_newName_46 (by decide) ?_
          have qc0 : (0 : Int32).toInt = 0 := by decide
          refine W.widen (k := 0) (n := 0) (Nat.le_of_ble_eq_true rfl) (Nat.le_of_ble_eq_true rfl) ?_
          have hP9 := hP
          have hD9 := hD
          have hK9 := (rgK7_1b59772 hK)
          have hf9_0 : (0 ≤ a0_7.toInt ∧ a0_7.toInt ≤ 1000) := by omega
          have hf9_1 : (0 ≤ a0_8.toInt ∧ a0_8.toInt ≤ 1000) := by omega
          have hf9_2 : ((0 : Int32) = 0 ∨ (0 : Int32) = 1) := (by decide)
          exact W.zret (v := 0) hx hb hr rfl (fun t ht hW => ⟨⟨0, 0, rfl, rfl, a0_7, a0_8, a0_9, a0_10, a0_11, za0_12_31, za0_13_32, a0_36, hf9_0, hf9_1, hf9_2, atB ht hP9, va_K.moved hW.alike hK9, hD9⟩, hS.F ht⟩) hS.2.2 dX9_newName_47
        · have c31_28 : ¬ (0 ≤ r27.toInt) := mt (cv_le (by decide) rfl).mpr c31_28
          refine lv_iconst (v := 1) hx hb dX9_newName_34 (by decide) ?_
          refine lv_goto (tgt := 39) hx hb dX9_newName_35 (by decide) ?_
          refine lv_iconst (v := 2) hx hb dX9_newName_39 (by decide) ?_
          have qc1 : (1 : Int32).toInt = 1 := by decide
          have qc2 : (2 : Int32).toInt = 2 := by decide
          have hPc := (rgP8_82ce498 hP)
          have hKc := (rgK7_1b59772 hK)
          have hDc := (rgD8_dd76439 hD)
          have hFc := freeW hDc hS hA
          refine va_calli (va_runV (As := [.int 1, .int 2]) (rest := []) ⟨hx, hb, hml, hown, hts⟩ (k_X9_must l dC dI g H.size (a0) (1) (2) (a0_0) (a0_1) (a0_2) (a0_3) (a0_4) (a0_5) (a0_6) (a0_7) (a0_8) (a0_9) (a0_10) (a0_11) (za0_12_4) (za0_13_5) (a0_14) (a0_15) (a0_16) (a0_17) (a0_18) (a0_19) (a0_20) (a0_21) (a0_22) (a0_23) (a0_24) (a0_25) (a0_26) (a0_27) (a0_28) (a0_29) (a0_30) (a0_31) (a0_32) (a0_33) (a0_34) (a0_35) (a0_36) (a0_37) (a0_38) (a0_39) (a0_40) (a0_41) (a0_42) (a0_43) (by omega) (by omega) (by omega) (by omega) (by omega) (by omega) (by omega) (by omega)) (cwV 2 hts (gwV qw_472 qw_473 qw_474 qw_386 qw_471) rfl rfl rfl (by decide +kernel) ⟨Nat.le_of_ble_eq_true rfl, Nat.le_of_ble_eq_true rfl⟩) ⟨fun a U g9 mk q => ⟨q.1, q.2.1, q.2.2.1, va_K.moved (u := U) (U := U.calling g9 mk a) (Vm.Alike.refl U.vm) q.2.2.2.1, q.2.2.2.2.1, Ev.bl q.2.2.2.2.2⟩, va_recv hK hP (ci := 8) (q0 := 0) rfl rgL8_41f41bf, fun U hU hW => ⟨rfl, by rw [hU], atB hU hPc, va_K.moved hW.alike hKc, hDc.weaken (fun _ _ _ _ => trivial), hE.go hS hFc hU hW⟩⟩ rfl rfl hl.1 rfl (lv_room (Nat.le_of_ble_eq_true rfl)) dX9_newName_40 ⟨Nat.le_of_ble_eq_true rfl, Nat.le_of_ble_eq_true rfl⟩) hS (fun q _ h => hFc q h) hFc (fun r37 u36 t H1 locs ht hvm h_u36 hB hz1 hk1 hS => ?_)
          obtain ⟨za0_12_38, za0_13_39, hF40, hF41, hP1, hK1, hD1⟩ := hB
          have hK1 := va_K.moved hvm.symm hK1
          have hJ9 := rgJ8_3415f12 hP hD hk1 hFc (atH ht hP1) hD1
          clear hP hD hPc hKc hDc hFc hP1 hD1 hk1 hz1
          obtain ⟨hP, hD⟩ := hJ9
          clear hK1
          generalize H1 = H at hP hS ⊢
          refine W.widen (k := 0) (n := 0) (Nat.le_of_ble_eq_true rfl) (Nat.le_of_ble_eq_true rfl) ?_
          have h_r37 := congrArg Int32.toInt h_u36
          have hz_r37 : r37 = 0 ∨ r37 = 1 := h_u36 ▸ hF40
          have b_r37 := z01 hz_r37
          refine lv_if_ne (tgt := 48) hx hb dX9_newName_43 (by decide) (fun c43_42 => ?_) (fun c43_42 => ?_)
          · have c43_42 : ¬ (r37.toInt = 0) := mt (cv_eq rfl (by decide)).mpr c43_42
            refine lv_aload_n hx hb dX9_newName_48 rfl (lv_at hl 0 rfl) ?_
            refine lv_aload_n hx hb dX9_newName_49 rfl (lv_at hl 0 rfl) ?_
            refine va_get (D := (dC, dI)) (ci := 8) (v := .long a0_11) (C := RX9) (T := TX9) (N := 44) hx hb hts inlX9 hown hK hP 0 rgL8_41f41bf rfl 11 (by decide) (hts (.fieldLink RX9 166 "ClosedUntilModel" "word" "J") qw_422) (fun _ h9 => h9) rfl dX9_newName_50 ?_
            refine va_put (D := (dC, dI)) (ci := 8) (v := .long a0_11) (ty := .long) (C := RX9) (T := TX9) (N := 44) hx hb hts inlX9 tyX9 tyX9_ok nmX9 hown hK hP hD hS 0 rgL8_41f41bf rfl 36 (by decide) (hts (.fieldLink RX9 271 "ClosedUntilModel" "nameHere" "J") qw_498) (fun _ h9 => h9) rfl (by decide +kernel) rfl rfl (Nat.le_of_ble_eq_true rfl) dX9_newName_53 (fun H locs hP9 hD9 hS9 => ?_)
            clear hP hD hS
            obtain ⟨hP, hD⟩ := rgS8_9a11695 (e := (a0, .inr (8, [.int a0_0, .int a0_1, .int a0_2, .int a0_3, .ref a0_4, .int a0_5, .int a0_6, .int a0_7, .int a0_8, .int a0_9, .int a0_10, .long a0_11, .int za0_12_38, .int za0_13_39, .int a0_14, .int a0_15, .int a0_16, .int a0_17, .ref a0_18, .ref a0_19, .ref a0_20, .ref a0_21, .ref a0_22, .ref a0_23, .ref a0_24, .ref a0_25, .ref a0_26, .ref a0_27, .ref a0_28, .ref a0_29, .ref a0_30, .ref a0_31, .ref a0_32, .ref a0_33, .ref a0_34, .ref a0_35, .long a0_11, .int a0_37, .ref a0_38, .ref a0_39, .int a0_40, .ref a0_41, .ref a0_42, .ref a0_43]))) hP9 hD9 rfl
            have hS := hS9; clear hP9 hD9 hS9
            refine lv_aload_n hx hb dX9_newName_56 rfl (lv_at hl 0 rfl) ?_
            have hPc := (rgP8_955f498 hP)
            have hKc := (rgK7_b1c58f2 hK)
            have hDc := (rgD8_ed008bd hD)
            have hFc := freeW hDc hS hA
            refine va_callv (va_runV (As := []) (rest := []) ⟨hx, hb, hml, hown, hts⟩ (k_X9_steps l dC dI g H.size (a0) (a0_0) (a0_1) (a0_2) (a0_3) (a0_4) (a0_5) (a0_6) (a0_7) (a0_8) (a0_9) (a0_10) (a0_11) (za0_12_38) (za0_13_39) (a0_14) (a0_15) (a0_16) (a0_17) (a0_18) (a0_19) (a0_20) (a0_21) (a0_22) (a0_23) (a0_24) (a0_25) (a0_26) (a0_27) (a0_28) (a0_29) (a0_30) (a0_31) (a0_32) (a0_33) (a0_34) (a0_35) (a0_11) (a0_37) (a0_38) (a0_39) (a0_40) (a0_41) (a0_42) (a0_43) (a0_4_c) (a0_4_f) (by omega) (by omega) (by omega) (by omega) (by omega) (by omega) (by omega)) (cwV 0 hts (gwV qw_468 qw_469 qw_470 qw_386 qw_467) rfl rfl rfl (by decide +kernel) ⟨Nat.le_of_ble_eq_true rfl, Nat.le_of_ble_eq_true rfl⟩) ⟨fun a U g9 mk q => ⟨q.1, q.2.1, q.2.2.1, va_K.moved (u := U) (U := U.calling g9 mk a) (Vm.Alike.refl U.vm) q.2.2.2.1, q.2.2.2.2.1, Ev.bl q.2.2.2.2.2⟩, va_recv hK hP (ci := 8) (q0 := 0) rfl rgL8_41f41bf, fun U hU hW => ⟨rfl, by rw [hU], atB hU hPc, va_K.moved hW.alike hKc, hDc.weaken (fun _ _ _ _ => trivial), hE.go hS hFc hU hW⟩⟩ rfl rfl hl.1 rfl (lv_room (Nat.le_of_ble_eq_true rfl)) dX9_newName_57 ⟨Nat.le_of_ble_eq_true rfl, Nat.le_of_ble_eq_true rfl⟩) hS (fun q _ h => hFc q h) hFc (fun u43 t H1 locs ht hvm h_u43 hB hz1 hk1 hS => ?_)
            obtain ⟨za0_7_45, za0_8_46, za0_9_47, za0_10_48, za0_11_49, hF50, hF51, hP1, hK1, hD1⟩ := hB
            have hK1 := va_K.moved hvm.symm hK1
            have hJ9 := rgJ8_15367d9 hP hD hk1 hFc (atH ht hP1) hD1
            clear hP hD hPc hKc hDc hFc hP1 hD1 hk1 hz1
            obtain ⟨hP, hD⟩ := hJ9
            clear hK1
            generalize H1 = H at hP hS ⊢
            refine W.widen (k := 0) (n := 0) (Nat.le_of_ble_eq_true rfl) (Nat.le_of_ble_eq_true rfl) ?_
            refine lv_iconst (v := 1) hx hb dX9_newName_60 (by decide) ?_
            have qc1 : (1 : Int32).toInt = 1 := by decide
            refine W.widen (k := 0) (n := 0) (Nat.le_of_ble_eq_true rfl) (Nat.le_of_ble_eq_true rfl) ?_
            have hP9 := hP
            have hD9 := hD
            have hK9 := (rgK7_1b59772 hK)
            have hf9_0 : (0 ≤ za0_7_45.toInt ∧ za0_7_45.toInt ≤ 1000) := by omega
            have hf9_1 : (0 ≤ za0_8_46.toInt ∧ za0_8_46.toInt ≤ 1000) := by omega
            have hf9_2 : ((1 : Int32) = 0 ∨ (1 : Int32) = 1) := (by decide)
            exact W.zret (v := 1) hx hb hr rfl (fun t ht hW => ⟨⟨1, 1, rfl, rfl, za0_7_45, za0_8_46, za0_9_47, za0_10_48, za0_11_49, za0_12_38, za0_13_39, a0_11, hf9_0, hf9_1, hf9_2, atB ht hP9, va_K.moved hW.alike hK9, hD9⟩, hS.F ht⟩) hS.2.2 dX9_newName_61
          · have c43_42 : r37.toInt = 0 := (cv_eq rfl (by decide)).mp c43_42
            refine lv_iconst (v := 0) hx hb dX9_newName_46 (by decide) ?_
            have qc0 : (0 : Int32).toInt = 0 := by decide
            refine W.widen (k := 0) (n := 0) (Nat.le_of_ble_eq_true rfl) (Nat.le_of_ble_eq_true rfl) ?_
            have hP9 := hP
            have hD9 := hD
            have hK9 := (rgK7_1b59772 hK)
            have hf9_0 : (0 ≤ a0_7.toInt ∧ a0_7.toInt ≤ 1000) := by omega
            have hf9_1 : (0 ≤ a0_8.toInt ∧ a0_8.toInt ≤ 1000) := by omega
            have hf9_2 : ((0 : Int32) = 0 ∨ (0 : Int32) = 1) := (by decide)
            exact W.zret (v := 0) hx hb hr rfl (fun t ht hW => ⟨⟨0, 0, rfl, rfl, a0_7, a0_8, a0_9, a0_10, a0_11, za0_12_38, za0_13_39, a0_36, hf9_0, hf9_1, hf9_2, atB ht hP9, va_K.moved hW.alike hK9, hD9⟩, hS.F ht⟩) hS.2.2 dX9_newName_47
set_option maxHeartbeats 4000000 in
set_option maxRecDepth 100000 in
theorem k_X9_takesTold (l : Launch) (dC : Nat → ClassId) (dI : Nat → Nat → Nat) (g : Gv) (sz : Nat) (a0 : Nat) (a1 : Int32) (a0_0 : Int32) (a0_1 : Int32) (a0_2 : Int32) (a0_3 : Int32) (a0_4 : Nat) (a0_5 : Int32) (a0_6 : Int32) (a0_7 : Int32) (a0_8 : Int32) (a0_9 : Int32) (a0_10 : Int32) (a0_11 : Int64) (a0_12 : Int32) (a0_13 : Int32) (a0_14 : Int32) (a0_15 : Int32) (a0_16 : Int32) (a0_17 : Int32) (a0_18 : Nat) (a0_19 : Nat) (a0_20 : Nat) (a0_21 : Nat) (a0_22 : Nat) (a0_23 : Nat) (a0_24 : Nat) (a0_25 : Nat) (a0_26 : Nat) (a0_27 : Nat) (a0_28 : Nat) (a0_29 : Nat) (a0_30 : Nat) (a0_31 : Nat) (a0_32 : Nat) (a0_33 : Nat) (a0_34 : Nat) (a0_35 : Nat) (a0_36 : Int64) (a0_37 : Int32) (a0_38 : Nat) (a0_39 : Nat) (a0_40 : Int32) (a0_41 : Nat) (a0_42 : Nat) (a0_43 : Nat) (a0_4_c : ClassId) (a0_4_f : Nat → Int32) (a0_18_c : ClassId) (a0_18_f : Nat → Int32) (a0_19_c : ClassId) (a0_19_f : Nat → Int32) (a0_20_c : ClassId) (a0_20_f : Nat → Int32) (a0_22_c : ClassId) (a0_22_f : Nat → Int64) (a0_25_c : ClassId) (a0_25_f : Nat → Int64) (a0_27_c : ClassId) (a0_27_f : Nat → Int64) (h_a0_5 : 0 ≤ a0_5.toInt ∧ a0_5.toInt ≤ 1000) (h_a0_6 : 0 ≤ a0_6.toInt ∧ a0_6.toInt ≤ 1000) (h_a0_7 : 0 ≤ a0_7.toInt ∧ a0_7.toInt ≤ 1000) (h_a0_8 : 0 ≤ a0_8.toInt ∧ a0_8.toInt ≤ 1000) (h_a0_17 : 0 ≤ a0_17.toInt ∧ a0_17.toInt ≤ 1) (h_a0_37 : (-1) ≤ a0_37.toInt ∧ a0_37.toInt ≤ 23) (h_a0_40 : 0 ≤ a0_40.toInt ∧ a0_40.toInt ≤ 12) (h_a0_18_f : vr 0 8 a0_18_f) (h_a0_19_f : vr 0 4 a0_19_f) (h_a0_20_f : vr 0 24 a0_20_f) : Met l yX9_takesTold (.code yX9_takesTold cX9_takesTold 2 (some .boolean) :: TBL) ({ frames := 8, cells := 0, slots := 0, locals := 244 }) (va_Pc [.ref a0, .int a1] (fun U => U.heap.size = sz ∧ va_P (dC, dI) vwCl [(a0, .inr (8, [.int a0_0, .int a0_1, .int a0_2, .int a0_3, .ref a0_4, .int a0_5, .int a0_6, .int a0_7, .int a0_8, .int a0_9, .int a0_10, .long a0_11, .int a0_12, .int a0_13, .int a0_14, .int a0_15, .int a0_16, .int a0_17, .ref a0_18, .ref a0_19, .ref a0_20, .ref a0_21, .ref a0_22, .ref a0_23, .ref a0_24, .ref a0_25, .ref a0_26, .ref a0_27, .ref a0_28, .ref a0_29, .ref a0_30, .ref a0_31, .ref a0_32, .ref a0_33, .ref a0_34, .ref a0_35, .long a0_36, .int a0_37, .ref a0_38, .ref a0_39, .int a0_40, .ref a0_41, .ref a0_42, .ref a0_43])), (a0_4, .inl (a0_4_c, 1000, .inl a0_4_f)), (a0_18, .inl (a0_18_c, 2, .inl a0_18_f)), (a0_19, .inl (a0_19_c, 2, .inl a0_19_f)), (a0_20, .inl (a0_20_c, 2, .inl a0_20_f)), (a0_22, .inl (a0_22_c, 16, .inr (.inl a0_22_f))), (a0_25, .inl (a0_25_c, 8, .inr (.inl a0_25_f))), (a0_27, .inl (a0_27_c, 48, .inr (.inl a0_27_f)))] U.heap ∧ va_K (dC, dI) vwCl [(a0_4_c, .byte), (a0_18_c, .int), (a0_19_c, .int), (a0_20_c, .int), (a0_22_c, .long), (a0_25_c, .long), (a0_27_c, .long)] U ∧ va_D (fun _ => True) [(a0, .inr (8, [.int a0_0, .int a0_1, .int a0_2, .int a0_3, .ref a0_4, .int a0_5, .int a0_6, .int a0_7, .int a0_8, .int a0_9, .int a0_10, .long a0_11, .int a0_12, .int a0_13, .int a0_14, .int a0_15, .int a0_16, .int a0_17, .ref a0_18, .ref a0_19, .ref a0_20, .ref a0_21, .ref a0_22, .ref a0_23, .ref a0_24, .ref a0_25, .ref a0_26, .ref a0_27, .ref a0_28, .ref a0_29, .ref a0_30, .ref a0_31, .ref a0_32, .ref a0_33, .ref a0_34, .ref a0_35, .long a0_36, .int a0_37, .ref a0_38, .ref a0_39, .int a0_40, .ref a0_41, .ref a0_42, .ref a0_43])), (a0_4, .inl (a0_4_c, 1000, .inl a0_4_f)), (a0_18, .inl (a0_18_c, 2, .inl a0_18_f)), (a0_19, .inl (a0_19_c, 2, .inl a0_19_f)), (a0_20, .inl (a0_20_c, 2, .inl a0_20_f)), (a0_22, .inl (a0_22_c, 16, .inr (.inl a0_22_f))), (a0_25, .inl (a0_25_c, 8, .inr (.inl a0_25_f))), (a0_27, .inl (a0_27_c, 48, .inr (.inl a0_27_f)))] ∧ Ev g (va_A [(a0, .inr (8, [.int a0_0, .int a0_1, .int a0_2, .int a0_3, .ref a0_4, .int a0_5, .int a0_6, .int a0_7, .int a0_8, .int a0_9, .int a0_10, .long a0_11, .int a0_12, .int a0_13, .int a0_14, .int a0_15, .int a0_16, .int a0_17, .ref a0_18, .ref a0_19, .ref a0_20, .ref a0_21, .ref a0_22, .ref a0_23, .ref a0_24, .ref a0_25, .ref a0_26, .ref a0_27, .ref a0_28, .ref a0_29, .ref a0_30, .ref a0_31, .ref a0_32, .ref a0_33, .ref a0_34, .ref a0_35, .long a0_36, .int a0_37, .ref a0_38, .ref a0_39, .int a0_40, .ref a0_41, .ref a0_42, .ref a0_43])), (a0_4, .inl (a0_4_c, 1000, .inl a0_4_f)), (a0_18, .inl (a0_18_c, 2, .inl a0_18_f)), (a0_19, .inl (a0_19_c, 2, .inl a0_19_f)), (a0_20, .inl (a0_20_c, 2, .inl a0_20_f)), (a0_22, .inl (a0_22_c, 16, .inr (.inl a0_22_f))), (a0_25, .inl (a0_25_c, 8, .inr (.inl a0_25_f))), (a0_27, .inl (a0_27_c, 48, .inr (.inl a0_27_f)))] sz) U)) (va_Qi (fun (r : Int32) (u : Int32) => u = r) (fun (u : Int32) (t : State) => ∃ (za0_7 : Int32) (za0_8 : Int32) (za0_9 : Int32) (za0_10 : Int32) (za0_11 : Int64) (za0_12 : Int32) (za0_13 : Int32) (za0_37 : Int32), (0 ≤ za0_7.toInt ∧ za0_7.toInt ≤ 1000) ∧ (0 ≤ za0_8.toInt ∧ za0_8.toInt ≤ 1000) ∧ ((-1) ≤ za0_37.toInt ∧ za0_37.toInt ≤ 23) ∧ (u = 0 ∨ u = 1) ∧ (u.toInt = 1 → 0 ≤ za0_37.toInt ∧ (a1.toInt = 0 → za0_37.toInt < (a0_20_f a0_17.toNatClampNeg).toInt) ∧ (a1.toInt = 1 → za0_37.toInt < 8) ∧ (a1.toInt ≠ 0 ∧ a1.toInt ≠ 1 → za0_37.toInt < 4)) ∧ va_P (dC, dI) vwCl [(a0, .inr (8, [.int a0_0, .int a0_1, .int a0_2, .int a0_3, .ref a0_4, .int a0_5, .int a0_6, .int za0_7, .int za0_8, .int za0_9, .int za0_10, .long za0_11, .int za0_12, .int za0_13, .int a0_14, .int a0_15, .int a0_16, .int a0_17, .ref a0_18, .ref a0_19, .ref a0_20, .ref a0_21, .ref a0_22, .ref a0_23, .ref a0_24, .ref a0_25, .ref a0_26, .ref a0_27, .ref a0_28, .ref a0_29, .ref a0_30, .ref a0_31, .ref a0_32, .ref a0_33, .ref a0_34, .ref a0_35, .long a0_36, .int za0_37, .ref a0_38, .ref a0_39, .int a0_40, .ref a0_41, .ref a0_42, .ref a0_43])), (a0_4, .inl (a0_4_c, 1000, .inl a0_4_f)), (a0_18, .inl (a0_18_c, 2, .inl a0_18_f)), (a0_19, .inl (a0_19_c, 2, .inl a0_19_f)), (a0_20, .inl (a0_20_c, 2, .inl a0_20_f)), (a0_22, .inl (a0_22_c, 16, .inr (.inl a0_22_f))), (a0_25, .inl (a0_25_c, 8, .inr (.inl a0_25_f))), (a0_27, .inl (a0_27_c, 48, .inr (.inl a0_27_f)))] t.heap ∧ va_K (dC, dI) vwCl [] t ∧ va_D (va_A [(a0, .inr (8, [.int a0_0, .int a0_1, .int a0_2, .int a0_3, .ref a0_4, .int a0_5, .int a0_6, .int a0_7, .int a0_8, .int a0_9, .int a0_10, .long a0_11, .int a0_12, .int a0_13, .int a0_14, .int a0_15, .int a0_16, .int a0_17, .ref a0_18, .ref a0_19, .ref a0_20, .ref a0_21, .ref a0_22, .ref a0_23, .ref a0_24, .ref a0_25, .ref a0_26, .ref a0_27, .ref a0_28, .ref a0_29, .ref a0_30, .ref a0_31, .ref a0_32, .ref a0_33, .ref a0_34, .ref a0_35, .long a0_36, .int a0_37, .ref a0_38, .ref a0_39, .int a0_40, .ref a0_41, .ref a0_42, .ref a0_43])), (a0_4, .inl (a0_4_c, 1000, .inl a0_4_f)), (a0_18, .inl (a0_18_c, 2, .inl a0_18_f)), (a0_19, .inl (a0_19_c, 2, .inl a0_19_f)), (a0_20, .inl (a0_20_c, 2, .inl a0_20_f)), (a0_22, .inl (a0_22_c, 16, .inr (.inl a0_22_f))), (a0_25, .inl (a0_25_c, 8, .inr (.inl a0_25_f))), (a0_27, .inl (a0_27_c, 48, .inr (.inl a0_27_f)))] sz) [(a0, .inr (8, [.int a0_0, .int a0_1, .int a0_2, .int a0_3, .ref a0_4, .int a0_5, .int a0_6, .int za0_7, .int za0_8, .int za0_9, .int za0_10, .long za0_11, .int za0_12, .int za0_13, .int a0_14, .int a0_15, .int a0_16, .int a0_17, .ref a0_18, .ref a0_19, .ref a0_20, .ref a0_21, .ref a0_22, .ref a0_23, .ref a0_24, .ref a0_25, .ref a0_26, .ref a0_27, .ref a0_28, .ref a0_29, .ref a0_30, .ref a0_31, .ref a0_32, .ref a0_33, .ref a0_34, .ref a0_35, .long a0_36, .int za0_37, .ref a0_38, .ref a0_39, .int a0_40, .ref a0_41, .ref a0_42, .ref a0_43])), (a0_4, .inl (a0_4_c, 1000, .inl a0_4_f)), (a0_18, .inl (a0_18_c, 2, .inl a0_18_f)), (a0_19, .inl (a0_19_c, 2, .inl a0_19_f)), (a0_20, .inl (a0_20_c, 2, .inl a0_20_f)), (a0_22, .inl (a0_22_c, 16, .inr (.inl a0_22_f))), (a0_25, .inl (a0_25_c, 8, .inr (.inl a0_25_f))), (a0_27, .inl (a0_27_c, 48, .inr (.inl a0_27_f)))]) (va_A [(a0, .inr (8, [.int a0_0, .int a0_1, .int a0_2, .int a0_3, .ref a0_4, .int a0_5, .int a0_6, .int a0_7, .int a0_8, .int a0_9, .int a0_10, .long a0_11, .int a0_12, .int a0_13, .int a0_14, .int a0_15, .int a0_16, .int a0_17, .ref a0_18, .ref a0_19, .ref a0_20, .ref a0_21, .ref a0_22, .ref a0_23, .ref a0_24, .ref a0_25, .ref a0_26, .ref a0_27, .ref a0_28, .ref a0_29, .ref a0_30, .ref a0_31, .ref a0_32, .ref a0_33, .ref a0_34, .ref a0_35, .long a0_36, .int a0_37, .ref a0_38, .ref a0_39, .int a0_40, .ref a0_41, .ref a0_42, .ref a0_43])), (a0_4, .inl (a0_4_c, 1000, .inl a0_4_f)), (a0_18, .inl (a0_18_c, 2, .inl a0_18_f)), (a0_19, .inl (a0_19_c, 2, .inl a0_19_f)), (a0_20, .inl (a0_20_c, 2, .inl a0_20_f)), (a0_22, .inl (a0_22_c, 16, .inr (.inl a0_22_f))), (a0_25, .inl (a0_25_c, 8, .inr (.inl a0_25_f))), (a0_27, .inl (a0_27_c, 48, .inr (.inl a0_27_f)))] sz)) 0 0 (va_A [(a0, .inr (8, [.int a0_0, .int a0_1, .int a0_2, .int a0_3, .ref a0_4, .int a0_5, .int a0_6, .int a0_7, .int a0_8, .int a0_9, .int a0_10, .long a0_11, .int a0_12, .int a0_13, .int a0_14, .int a0_15, .int a0_16, .int a0_17, .ref a0_18, .ref a0_19, .ref a0_20, .ref a0_21, .ref a0_22, .ref a0_23, .ref a0_24, .ref a0_25, .ref a0_26, .ref a0_27, .ref a0_28, .ref a0_29, .ref a0_30, .ref a0_31, .ref a0_32, .ref a0_33, .ref a0_34, .ref a0_35, .long a0_36, .int a0_37, .ref a0_38, .ref a0_39, .int a0_40, .ref a0_41, .ref a0_42, .ref a0_43])), (a0_4, .inl (a0_4_c, 1000, .inl a0_4_f)), (a0_18, .inl (a0_18_c, 2, .inl a0_18_f)), (a0_19, .inl (a0_19_c, 2, .inl a0_19_f)), (a0_20, .inl (a0_20_c, 2, .inl a0_20_f)), (a0_22, .inl (a0_22_c, 16, .inr (.inl a0_22_f))), (a0_25, .inl (a0_25_c, 8, .inr (.inl a0_25_f))), (a0_27, .inl (a0_27_c, 48, .inr (.inl a0_27_f)))] sz) := by
  refine Met.ofW (cc := cX9_takesTold) (maxL := 2) (ret := (some .boolean)) (by decide) rfl ?_
  intro p e s m args below meth c s₁ B hml hv
  obtain ⟨rfl, hsz, hP, hK, hD0, hE⟩ := hv
  have hx := B.exec
  have hb := B.bytes
  have hr := B.returns
  have hts0 := atoms_spec (ws := (.code yX9_takesTold cX9_takesTold 2 (some .boolean) :: TBL)) B.pre
  have hts := fun (w : Cond) (h : w ∈ TBL) => hts0 w (List.mem_cons_of_mem _ h)
  have hown : s.vm.findClass RX9 = some m.cls := findClass_of_methodNamed B.named
  have hlocks := B.notSynchronized
  have hN := hE.1
  subst hsz
  have hD := hD0.self (sz := s.heap.size)
  generalize hAe : va_A [(a0, .inr (8, [.int a0_0, .int a0_1, .int a0_2, .int a0_3, .ref a0_4, .int a0_5, .int a0_6, .int a0_7, .int a0_8, .int a0_9, .int a0_10, .long a0_11, .int a0_12, .int a0_13, .int a0_14, .int a0_15, .int a0_16, .int a0_17, .ref a0_18, .ref a0_19, .ref a0_20, .ref a0_21, .ref a0_22, .ref a0_23, .ref a0_24, .ref a0_25, .ref a0_26, .ref a0_27, .ref a0_28, .ref a0_29, .ref a0_30, .ref a0_31, .ref a0_32, .ref a0_33, .ref a0_34, .ref a0_35, .long a0_36, .int a0_37, .ref a0_38, .ref a0_39, .int a0_40, .ref a0_41, .ref a0_42, .ref a0_43])), (a0_4, .inl (a0_4_c, 1000, .inl a0_4_f)), (a0_18, .inl (a0_18_c, 2, .inl a0_18_f)), (a0_19, .inl (a0_19_c, 2, .inl a0_19_f)), (a0_20, .inl (a0_20_c, 2, .inl a0_20_f)), (a0_22, .inl (a0_22_c, 16, .inr (.inl a0_22_f))), (a0_25, .inl (a0_25_c, 8, .inr (.inl a0_25_f))), (a0_27, .inl (a0_27_c, 48, .inr (.inl a0_27_f)))] s.heap.size = A at hD hE ⊢
  have hA : ∀ q : Nat, s.heap.size ≤ q → A q := fun q h => by rw [← hAe]; exact Or.inr h
  have hS : va_S A s.heap s.heap [] := va_S.rf
  replace hP : va_P (dC, dI) vwCl [(a0, .inr (8, [.int a0_0, .int a0_1, .int a0_2, .int a0_3, .ref a0_4, .int a0_5, .int a0_6, .int a0_7, .int a0_8, .int a0_9, .int a0_10, .long a0_11, .int a0_12, .int a0_13, .int a0_14, .int a0_15, .int a0_16, .int a0_17, .ref a0_18, .ref a0_19, .ref a0_20, .ref a0_21, .ref a0_22, .ref a0_23, .ref a0_24, .ref a0_25, .ref a0_26, .ref a0_27, .ref a0_28, .ref a0_29, .ref a0_30, .ref a0_31, .ref a0_32, .ref a0_33, .ref a0_34, .ref a0_35, .long a0_36, .int a0_37, .ref a0_38, .ref a0_39, .int a0_40, .ref a0_41, .ref a0_42, .ref a0_43])), (a0_4, .inl (a0_4_c, 1000, .inl a0_4_f)), (a0_18, .inl (a0_18_c, 2, .inl a0_18_f)), (a0_19, .inl (a0_19_c, 2, .inl a0_19_f)), (a0_20, .inl (a0_20_c, 2, .inl a0_20_f)), (a0_22, .inl (a0_22_c, 16, .inr (.inl a0_22_f))), (a0_25, .inl (a0_25_c, 8, .inr (.inl a0_25_f))), (a0_27, .inl (a0_27_c, 48, .inr (.inl a0_27_f)))] s.heap := hP
  have hl := lv_entry ([.ref a0, .int a1]) (n := 2) (Nat.le_of_ble_eq_true rfl)
  rw [lg_entry_eq]
  generalize (lg_sl ([.ref a0, .int a1]) ++ List.replicate (2 - (lg_sl ([.ref a0, .int a1])).length) Slot.unset).toArray = ls at hl ⊢
  have hl : lv_has ls 2 [(0, .ref a0), (1, .int a1)] := hl
  have b_a1 := i32b a1
  have b_a0_0 := i32b a0_0
  have b_a0_1 := i32b a0_1
  have b_a0_2 := i32b a0_2
  have b_a0_3 := i32b a0_3
  have b_a0_9 := i32b a0_9
  have b_a0_10 := i32b a0_10
  have b_a0_12 := i32b a0_12
  have b_a0_13 := i32b a0_13
  have b_a0_14 := i32b a0_14
  have b_a0_15 := i32b a0_15
  have b_a0_16 := i32b a0_16
  have hpl18 := vr_at h_a0_18_f (k := a0_17.toNatClampNeg) rfl
  have hpl19 := vr_at h_a0_19_f (k := a0_17.toNatClampNeg) rfl
  have hpl20 := vr_at h_a0_20_f (k := a0_17.toNatClampNeg) rfl
  refine lv_aload_n hx hb dX9_takesTold_0 rfl (lv_at hl 0 rfl) ?_
  refine lv_aload_n hx hb dX9_takesTold_1 rfl (lv_at hl 0 rfl) ?_
  have hPc := (rgP8_82ce498 hP)
  have hKc := (rgK7_1b59772 hK)
  refine vp_callSi ((va_runV (As := []) (rest := [.ref a0]) ⟨hx, hb, hml, hown, hts⟩ (k_X9_isName l dC dI g (a0) (a0_0) (a0_1) (a0_2) (a0_3) (a0_4) (a0_5) (a0_6) (a0_7) (a0_8) (a0_9) (a0_10) (a0_11) (a0_12) (a0_13) (a0_14) (a0_15) (a0_16) (a0_17) (a0_18) (a0_19) (a0_20) (a0_21) (a0_22) (a0_23) (a0_24) (a0_25) (a0_26) (a0_27) (a0_28) (a0_29) (a0_30) (a0_31) (a0_32) (a0_33) (a0_34) (a0_35) (a0_36) (a0_37) (a0_38) (a0_39) (a0_40) (a0_41) (a0_42) (a0_43) (by omega) (by omega) (by omega) (by omega) (by omega) (by omega) (by omega)) (cwV 0 hts (gwV qw_483 qw_484 qw_485 qw_386 qw_482) rfl rfl rfl (by decide +kernel) ⟨Nat.le_of_ble_eq_true rfl, Nat.le_of_ble_eq_true rfl⟩) ⟨fun a U g9 mk q => ⟨q.1, q.2.1, va_K.moved (u := U) (U := U.calling g9 mk a) (Vm.Alike.refl U.vm) q.2.2.1, Ev.bl q.2.2.2⟩, va_recv hK hP (ci := 8) (q0 := 0) rfl rgL8_41f41bf, fun U hU hW => ⟨rfl, atB hU hPc, va_K.moved hW.alike hKc, hE.go hS (fun _ h => h.elim) hU hW⟩⟩ rfl rfl hl.1 rfl (lv_room (Nat.le_of_ble_eq_true rfl)) dX9_takesTold_2 ⟨Nat.le_of_ble_eq_true rfl, Nat.le_of_ble_eq_true rfl⟩)).run (fun r1 h_r1 => ?_)
  have h_r1 : (r1 = 0 ∨ r1 = 1) := h_r1
  have b_r1 := z01 (show r1 = 0 ∨ r1 = 1 from h_r1)
  refine lv_iconst (v := 1) hx hb dX9_takesTold_5 (by decide) ?_
  have qc1 : (1 : Int32).toInt = 1 := by decide
  have hPc := (rgP8_82ce498 hP)
  have hKc := (rgK7_1b59772 hK)
  have hDc := (rgD8_dd76439 hD)
  have hFc := freeW hDc hS hA
  refine va_calli (va_runV (As := [.int r1, .int 1]) (rest := []) ⟨hx, hb, hml, hown, hts⟩ (k_X9_must l dC dI g s.heap.size (a0) (r1) (1) (a0_0) (a0_1) (a0_2) (a0_3) (a0_4) (a0_5) (a0_6) (a0_7) (a0_8) (a0_9) (a0_10) (a0_11) (a0_12) (a0_13) (a0_14) (a0_15) (a0_16) (a0_17) (a0_18) (a0_19) (a0_20) (a0_21) (a0_22) (a0_23) (a0_24) (a0_25) (a0_26) (a0_27) (a0_28) (a0_29) (a0_30) (a0_31) (a0_32) (a0_33) (a0_34) (a0_35) (a0_36) (a0_37) (a0_38) (a0_39) (a0_40) (a0_41) (a0_42) (a0_43) (by omega) (by omega) (by omega) (by omega) (by omega) (by omega) (by omega) (by omega)) (cwV 2 hts (gwV qw_472 qw_473 qw_474 qw_386 qw_471) rfl rfl rfl (by decide +kernel) ⟨Nat.le_of_ble_eq_true rfl, Nat.le_of_ble_eq_true rfl⟩) ⟨fun a U g9 mk q => ⟨q.1, q.2.1, q.2.2.1, va_K.moved (u := U) (U := U.calling g9 mk a) (Vm.Alike.refl U.vm) q.2.2.2.1, q.2.2.2.2.1, Ev.bl q.2.2.2.2.2⟩, va_recv hK hP (ci := 8) (q0 := 0) rfl rgL8_41f41bf, fun U hU hW => ⟨rfl, by rw [hU], atB hU hPc, va_K.moved hW.alike hKc, hDc.weaken (fun _ _ _ _ => trivial), hE.go hS hFc hU hW⟩⟩ rfl rfl hl.1 rfl (lv_room (Nat.le_of_ble_eq_true rfl)) dX9_takesTold_6 ⟨Nat.le_of_ble_eq_true rfl, Nat.le_of_ble_eq_true rfl⟩) hS (fun q _ h => hFc q h) hFc (fun r3 u2 t H1 locs ht hvm h_u2 hB hz1 hk1 hS => ?_)
  obtain ⟨za0_12_4, za0_13_5, hF6, hF7, hP1, hK1, hD1⟩ := hB
  have hK1 := va_K.moved hvm.symm hK1
  have hJ9 := rgJ8_3415f12 hP hD hk1 hFc (atH ht hP1) hD1
  clear hP hD hPc hKc hDc hFc hP1 hD1 hk1 hz1
  obtain ⟨hP, hD⟩ := hJ9
  clear hK1
  generalize H1 = H at hP hS ⊢
  refine W.widen (k := 0) (n := 0) (Nat.le_of_ble_eq_true rfl) (Nat.le_of_ble_eq_true rfl) ?_
  have h_r3 := congrArg Int32.toInt h_u2
  have hz_r3 : r3 = 0 ∨ r3 = 1 := h_u2 ▸ hF6
  have b_r3 := z01 hz_r3
  refine lv_if_ne (tgt := 14) hx hb dX9_takesTold_9 (by decide) (fun c9_8 => ?_) (fun c9_8 => ?_)
  · have c9_8 : ¬ (r3.toInt = 0) := mt (cv_eq rfl (by decide)).mpr c9_8
    refine lv_aload_n hx hb dX9_takesTold_14 rfl (lv_at hl 0 rfl) ?_
    refine lv_iload_n hx hb dX9_takesTold_15 rfl (lv_at hl 1 rfl) ?_
    refine lv_if_ne (tgt := 26) hx hb dX9_takesTold_16 (by decide) (fun c16_9 => ?_) (fun c16_9 => ?_)
    · have c16_9 : ¬ (a1.toInt = 0) := mt (cv_eq rfl (by decide)).mpr c16_9
      refine lv_iload_n hx hb dX9_takesTold_26 rfl (lv_at hl 1 rfl) ?_
      refine lv_iconst (v := 1) hx hb dX9_takesTold_27 (by decide) ?_
      refine lv_icmp_ne (tgt := 38) hx hb dX9_takesTold_28 (by decide) (fun c28_10 => ?_) (fun c28_10 => ?_)
      · have c28_10 : ¬ (a1.toInt = 1) := mt (cv_eq rfl (by decide)).mpr c28_10
        refine lv_aload_n hx hb dX9_takesTold_38 rfl (lv_at hl 0 rfl) ?_
        have hPc := (rgP8_d78cbf3 hP)
        have hKc := (rgK7_5853438 hK)
        refine vp_callSi ((va_runV (As := []) (rest := [.ref a0]) ⟨hx, hb, hml, hown, hts⟩ (k_X9_depositNamed l dC dI g (a0) (a0_0) (a0_1) (a0_2) (a0_3) (a0_4) (a0_5) (a0_6) (a0_7) (a0_8) (a0_9) (a0_10) (a0_11) (za0_12_4) (za0_13_5) (a0_14) (a0_15) (a0_16) (a0_17) (a0_18) (a0_19) (a0_20) (a0_21) (a0_22) (a0_23) (a0_24) (a0_25) (a0_26) (a0_27) (a0_28) (a0_29) (a0_30) (a0_31) (a0_32) (a0_33) (a0_34) (a0_35) (a0_36) (a0_37) (a0_38) (a0_39) (a0_40) (a0_41) (a0_42) (a0_43) (a0_19_c) (a0_19_f) (a0_25_c) (a0_25_f) (by omega) (by omega) (by omega) (by omega) (by omega) (by omega) (by omega) h_a0_19_f) (cwV 0 hts (gwV qw_491 qw_492 qw_493 qw_386 qw_490) rfl rfl rfl (by decide +kernel) ⟨Nat.le_of_ble_eq_true rfl, Nat.le_of_ble_eq_true rfl⟩) ⟨fun a U g9 mk q => ⟨q.1, q.2.1, va_K.moved (u := U) (U := U.calling g9 mk a) (Vm.Alike.refl U.vm) q.2.2.1, Ev.bl q.2.2.2⟩, va_recv hK hP (ci := 8) (q0 := 0) rfl rgL8_41f41bf, fun U hU hW => ⟨rfl, atB hU hPc, va_K.moved hW.alike hKc, hE.go hS (fun _ h => h.elim) hU hW⟩⟩ rfl rfl hl.1 rfl (lv_room (Nat.le_of_ble_eq_true rfl)) dX9_takesTold_39 ⟨Nat.le_of_ble_eq_true rfl, Nat.le_of_ble_eq_true rfl⟩)).run (fun r11 h_r11 => ?_)
        have h_r11 : (-1 ≤ r11.toInt ∧ r11.toInt < (a0_19_f a0_17.toNatClampNeg).toInt) := h_r11
        have b_r11 := i32b r11
        refine va_put (D := (dC, dI)) (ci := 8) (v := .int r11) (ty := .int) (C := RX9) (T := TX9) (N := 44) hx hb hts inlX9 tyX9 tyX9_ok nmX9 hown hK hP hD hS 0 rgL8_41f41bf rfl 37 (by decide) (hts (.fieldLink RX9 274 "ClosedUntilModel" "foundHere" "I") qw_499) (fun _ h9 => h9) rfl (by decide +kernel) rfl rfl (Nat.le_of_ble_eq_true rfl) dX9_takesTold_42 (fun H locs hP9 hD9 hS9 => ?_)
        clear hP hD hS
        obtain ⟨hP, hD⟩ := rgS8_9a11695 (e := (a0, .inr (8, [.int a0_0, .int a0_1, .int a0_2, .int a0_3, .ref a0_4, .int a0_5, .int a0_6, .int a0_7, .int a0_8, .int a0_9, .int a0_10, .long a0_11, .int za0_12_4, .int za0_13_5, .int a0_14, .int a0_15, .int a0_16, .int a0_17, .ref a0_18, .ref a0_19, .ref a0_20, .ref a0_21, .ref a0_22, .ref a0_23, .ref a0_24, .ref a0_25, .ref a0_26, .ref a0_27, .ref a0_28, .ref a0_29, .ref a0_30, .ref a0_31, .ref a0_32, .ref a0_33, .ref a0_34, .ref a0_35, .long a0_36, .int r11, .ref a0_38, .ref a0_39, .int a0_40, .ref a0_41, .ref a0_42, .ref a0_43]))) hP9 hD9 rfl
        have hS := hS9; clear hP9 hD9 hS9
        refine lv_aload_n hx hb dX9_takesTold_45 rfl (lv_at hl 0 rfl) ?_
        refine lv_aload_n hx hb dX9_takesTold_46 rfl (lv_at hl 0 rfl) ?_
        refine va_get (D := (dC, dI)) (ci := 8) (v := .int r11) (C := RX9) (T := TX9) (N := 44) hx hb hts inlX9 hown hK hP 0 rgL8_41f41bf rfl 37 (by decide) (hts (.fieldLink RX9 274 "ClosedUntilModel" "foundHere" "I") qw_499) (fun _ h9 => h9) rfl dX9_takesTold_47 ?_
        refine lv_if_lt (tgt := 57) hx hb dX9_takesTold_50 (by decide) (fun c50_12 => ?_) (fun c50_12 => ?_)
        · have c50_12 : r11.toInt < 0 := (cv_lt rfl (by decide)).mp c50_12
          refine lv_iconst (v := 0) hx hb dX9_takesTold_57 (by decide) ?_
          refine lv_iconst (v := 3) hx hb dX9_takesTold_58 (by decide) ?_
          have qc0 : (0 : Int32).toInt = 0 := by decide
          have qc3 : (3 : Int32).toInt = 3 := by decide
          have hPc := (rgP8_82ce498 hP)
          have hKc := (rgK7_1b59772 hK)
          have hDc := (rgD8_dd76439 hD)
          have hFc := freeW hDc hS hA
          refine va_calli (va_runV (As := [.int 0, .int 3]) (rest := []) ⟨hx, hb, hml, hown, hts⟩ (k_X9_must l dC dI g H.size (a0) (0) (3) (a0_0) (a0_1) (a0_2) (a0_3) (a0_4) (a0_5) (a0_6) (a0_7) (a0_8) (a0_9) (a0_10) (a0_11) (za0_12_4) (za0_13_5) (a0_14) (a0_15) (a0_16) (a0_17) (a0_18) (a0_19) (a0_20) (a0_21) (a0_22) (a0_23) (a0_24) (a0_25) (a0_26) (a0_27) (a0_28) (a0_29) (a0_30) (a0_31) (a0_32) (a0_33) (a0_34) (a0_35) (a0_36) (r11) (a0_38) (a0_39) (a0_40) (a0_41) (a0_42) (a0_43) (by omega) (by omega) (by omega) (by omega) (by omega) (by omega) (by omega) (by omega)) (cwV 2 hts (gwV qw_472 qw_473 qw_474 qw_386 qw_471) rfl rfl rfl (by decide +kernel) ⟨Nat.le_of_ble_eq_true rfl, Nat.le_of_ble_eq_true rfl⟩) ⟨fun a U g9 mk q => ⟨q.1, q.2.1, q.2.2.1, va_K.moved (u := U) (U := U.calling g9 mk a) (Vm.Alike.refl U.vm) q.2.2.2.1, q.2.2.2.2.1, Ev.bl q.2.2.2.2.2⟩, va_recv hK hP (ci := 8) (q0 := 0) rfl rgL8_41f41bf, fun U hU hW => ⟨rfl, by rw [hU], atB hU hPc, va_K.moved hW.alike hKc, hDc.weaken (fun _ _ _ _ => trivial), hE.go hS hFc hU hW⟩⟩ rfl rfl hl.1 rfl (lv_room (Nat.le_of_ble_eq_true rfl)) dX9_takesTold_59 ⟨Nat.le_of_ble_eq_true rfl, Nat.le_of_ble_eq_true rfl⟩) hS (fun q _ h => hFc q h) hFc (fun r14 u13 t H1 locs ht hvm h_u13 hB hz1 hk1 hS => ?_)
          obtain ⟨za0_12_15, za0_13_16, hF17, hF18, hP1, hK1, hD1⟩ := hB
          have hK1 := va_K.moved hvm.symm hK1
          have hJ9 := rgJ8_3415f12 hP hD hk1 hFc (atH ht hP1) hD1
          clear hP hD hPc hKc hDc hFc hP1 hD1 hk1 hz1
          obtain ⟨hP, hD⟩ := hJ9
          clear hK1
          generalize H1 = H at hP hS ⊢
          refine W.widen (k := 0) (n := 0) (Nat.le_of_ble_eq_true rfl) (Nat.le_of_ble_eq_true rfl) ?_
          have h_r14 := congrArg Int32.toInt h_u13
          have hz_r14 : r14 = 0 ∨ r14 = 1 := h_u13 ▸ hF17
          have b_r14 := z01 hz_r14
          refine cst (v := 0) (Int32.toInt_inj.mp (by rw [show (0 : Int32).toInt = 0 by decide]; omega)) ?_
          refine lv_if_ne (tgt := 67) hx hb dX9_takesTold_62 (by decide) (fun c62_19 => by exfalso; exact absurd c62_19 (by decide)) (fun c62_19 => ?_)
          refine lv_iconst (v := 0) hx hb dX9_takesTold_65 (by decide) ?_
          have qc0 : (0 : Int32).toInt = 0 := by decide
          refine W.widen (k := 0) (n := 0) (Nat.le_of_ble_eq_true rfl) (Nat.le_of_ble_eq_true rfl) ?_
          have hP9 := hP
          have hD9 := hD
          have hK9 := (rgK7_1b59772 hK)
          have hf9_0 : (0 ≤ a0_7.toInt ∧ a0_7.toInt ≤ 1000) := by omega
          have hf9_1 : (0 ≤ a0_8.toInt ∧ a0_8.toInt ≤ 1000) := by omega
          have hf9_2 : ((-1) ≤ r11.toInt ∧ r11.toInt ≤ 23) := by omega
          have hf9_3 : ((0 : Int32) = 0 ∨ (0 : Int32) = 1) := (by decide)
          have hf9_4 : ((0 : Int32).toInt = 1 → 0 ≤ r11.toInt ∧ (a1.toInt = 0 → r11.toInt < (a0_20_f a0_17.toNatClampNeg).toInt) ∧ (a1.toInt = 1 → r11.toInt < 8) ∧ (a1.toInt ≠ 0 ∧ a1.toInt ≠ 1 → r11.toInt < 4)) := by omega
          exact W.zret (v := 0) hx hb hr rfl (fun t ht hW => ⟨⟨0, 0, rfl, rfl, a0_7, a0_8, a0_9, a0_10, a0_11, za0_12_15, za0_13_16, r11, hf9_0, hf9_1, hf9_2, hf9_3, hf9_4, atB ht hP9, va_K.moved hW.alike hK9, hD9⟩, hS.F ht⟩) hS.2.2 dX9_takesTold_66
        · have c50_12 : ¬ (r11.toInt < 0) := mt (cv_lt rfl (by decide)).mpr c50_12
          refine lv_iconst (v := 1) hx hb dX9_takesTold_53 (by decide) ?_
          refine lv_goto (tgt := 58) hx hb dX9_takesTold_54 (by decide) ?_
          refine lv_iconst (v := 3) hx hb dX9_takesTold_58 (by decide) ?_
          have qc1 : (1 : Int32).toInt = 1 := by decide
          have qc3 : (3 : Int32).toInt = 3 := by decide
          have hPc := (rgP8_82ce498 hP)
          have hKc := (rgK7_1b59772 hK)
          have hDc := (rgD8_dd76439 hD)
          have hFc := freeW hDc hS hA
          refine va_calli (va_runV (As := [.int 1, .int 3]) (rest := []) ⟨hx, hb, hml, hown, hts⟩ (k_X9_must l dC dI g H.size (a0) (1) (3) (a0_0) (a0_1) (a0_2) (a0_3) (a0_4) (a0_5) (a0_6) (a0_7) (a0_8) (a0_9) (a0_10) (a0_11) (za0_12_4) (za0_13_5) (a0_14) (a0_15) (a0_16) (a0_17) (a0_18) (a0_19) (a0_20) (a0_21) (a0_22) (a0_23) (a0_24) (a0_25) (a0_26) (a0_27) (a0_28) (a0_29) (a0_30) (a0_31) (a0_32) (a0_33) (a0_34) (a0_35) (a0_36) (r11) (a0_38) (a0_39) (a0_40) (a0_41) (a0_42) (a0_43) (by omega) (by omega) (by omega) (by omega) (by omega) (by omega) (by omega) (by omega)) (cwV 2 hts (gwV qw_472 qw_473 qw_474 qw_386 qw_471) rfl rfl rfl (by decide +kernel) ⟨Nat.le_of_ble_eq_true rfl, Nat.le_of_ble_eq_true rfl⟩) ⟨fun a U g9 mk q => ⟨q.1, q.2.1, q.2.2.1, va_K.moved (u := U) (U := U.calling g9 mk a) (Vm.Alike.refl U.vm) q.2.2.2.1, q.2.2.2.2.1, Ev.bl q.2.2.2.2.2⟩, va_recv hK hP (ci := 8) (q0 := 0) rfl rgL8_41f41bf, fun U hU hW => ⟨rfl, by rw [hU], atB hU hPc, va_K.moved hW.alike hKc, hDc.weaken (fun _ _ _ _ => trivial), hE.go hS hFc hU hW⟩⟩ rfl rfl hl.1 rfl (lv_room (Nat.le_of_ble_eq_true rfl)) dX9_takesTold_59 ⟨Nat.le_of_ble_eq_true rfl, Nat.le_of_ble_eq_true rfl⟩) hS (fun q _ h => hFc q h) hFc (fun r21 u20 t H1 locs ht hvm h_u20 hB hz1 hk1 hS => ?_)
          obtain ⟨za0_12_22, za0_13_23, hF24, hF25, hP1, hK1, hD1⟩ := hB
          have hK1 := va_K.moved hvm.symm hK1
          have hJ9 := rgJ8_3415f12 hP hD hk1 hFc (atH ht hP1) hD1
          clear hP hD hPc hKc hDc hFc hP1 hD1 hk1 hz1
          obtain ⟨hP, hD⟩ := hJ9
          clear hK1
          generalize H1 = H at hP hS ⊢
          refine W.widen (k := 0) (n := 0) (Nat.le_of_ble_eq_true rfl) (Nat.le_of_ble_eq_true rfl) ?_
          have h_r21 := congrArg Int32.toInt h_u20
          have hz_r21 : r21 = 0 ∨ r21 = 1 := h_u20 ▸ hF24
          have b_r21 := z01 hz_r21
          refine lv_if_ne (tgt := 67) hx hb dX9_takesTold_62 (by decide) (fun c62_26 => ?_) (fun c62_26 => ?_)
          · have c62_26 : ¬ (r21.toInt = 0) := mt (cv_eq rfl (by decide)).mpr c62_26
            refine lv_aload_n hx hb dX9_takesTold_67 rfl (lv_at hl 0 rfl) ?_
            have hPc := (rgP8_955f498 hP)
            have hKc := (rgK7_b1c58f2 hK)
            have hDc := (rgD8_ed008bd hD)
            have hFc := freeW hDc hS hA
            refine va_callv (va_runV (As := []) (rest := []) ⟨hx, hb, hml, hown, hts⟩ (k_X9_steps l dC dI g H.size (a0) (a0_0) (a0_1) (a0_2) (a0_3) (a0_4) (a0_5) (a0_6) (a0_7) (a0_8) (a0_9) (a0_10) (a0_11) (za0_12_22) (za0_13_23) (a0_14) (a0_15) (a0_16) (a0_17) (a0_18) (a0_19) (a0_20) (a0_21) (a0_22) (a0_23) (a0_24) (a0_25) (a0_26) (a0_27) (a0_28) (a0_29) (a0_30) (a0_31) (a0_32) (a0_33) (a0_34) (a0_35) (a0_36) (r11) (a0_38) (a0_39) (a0_40) (a0_41) (a0_42) (a0_43) (a0_4_c) (a0_4_f) (by omega) (by omega) (by omega) (by omega) (by omega) (by omega) (by omega)) (cwV 0 hts (gwV qw_468 qw_469 qw_470 qw_386 qw_467) rfl rfl rfl (by decide +kernel) ⟨Nat.le_of_ble_eq_true rfl, Nat.le_of_ble_eq_true rfl⟩) ⟨fun a U g9 mk q => ⟨q.1, q.2.1, q.2.2.1, va_K.moved (u := U) (U := U.calling g9 mk a) (Vm.Alike.refl U.vm) q.2.2.2.1, q.2.2.2.2.1, Ev.bl q.2.2.2.2.2⟩, va_recv hK hP (ci := 8) (q0 := 0) rfl rgL8_41f41bf, fun U hU hW => ⟨rfl, by rw [hU], atB hU hPc, va_K.moved hW.alike hKc, hDc.weaken (fun _ _ _ _ => trivial), hE.go hS hFc hU hW⟩⟩ rfl rfl hl.1 rfl (lv_room (Nat.le_of_ble_eq_true rfl)) dX9_takesTold_68 ⟨Nat.le_of_ble_eq_true rfl, Nat.le_of_ble_eq_true rfl⟩) hS (fun q _ h => hFc q h) hFc (fun u27 t H1 locs ht hvm h_u27 hB hz1 hk1 hS => ?_)
            obtain ⟨za0_7_29, za0_8_30, za0_9_31, za0_10_32, za0_11_33, hF34, hF35, hP1, hK1, hD1⟩ := hB
            have hK1 := va_K.moved hvm.symm hK1
            have hJ9 := rgJ8_15367d9 hP hD hk1 hFc (atH ht hP1) hD1
            clear hP hD hPc hKc hDc hFc hP1 hD1 hk1 hz1
            obtain ⟨hP, hD⟩ := hJ9
            clear hK1
            generalize H1 = H at hP hS ⊢
            refine W.widen (k := 0) (n := 0) (Nat.le_of_ble_eq_true rfl) (Nat.le_of_ble_eq_true rfl) ?_
            refine lv_iconst (v := 1) hx hb dX9_takesTold_71 (by decide) ?_
            have qc1 : (1 : Int32).toInt = 1 := by decide
            refine W.widen (k := 0) (n := 0) (Nat.le_of_ble_eq_true rfl) (Nat.le_of_ble_eq_true rfl) ?_
            have hP9 := hP
            have hD9 := hD
            have hK9 := (rgK7_1b59772 hK)
            have hf9_0 : (0 ≤ za0_7_29.toInt ∧ za0_7_29.toInt ≤ 1000) := by omega
            have hf9_1 : (0 ≤ za0_8_30.toInt ∧ za0_8_30.toInt ≤ 1000) := by omega
            have hf9_2 : ((-1) ≤ r11.toInt ∧ r11.toInt ≤ 23) := by omega
            have hf9_3 : ((1 : Int32) = 0 ∨ (1 : Int32) = 1) := (by decide)
            have hf9_4 : ((1 : Int32).toInt = 1 → 0 ≤ r11.toInt ∧ (a1.toInt = 0 → r11.toInt < (a0_20_f a0_17.toNatClampNeg).toInt) ∧ (a1.toInt = 1 → r11.toInt < 8) ∧ (a1.toInt ≠ 0 ∧ a1.toInt ≠ 1 → r11.toInt < 4)) := by omega
            exact W.zret (v := 1) hx hb hr rfl (fun t ht hW => ⟨⟨1, 1, rfl, rfl, za0_7_29, za0_8_30, za0_9_31, za0_10_32, za0_11_33, za0_12_22, za0_13_23, r11, hf9_0, hf9_1, hf9_2, hf9_3, hf9_4, atB ht hP9, va_K.moved hW.alike hK9, hD9⟩, hS.F ht⟩) hS.2.2 dX9_takesTold_72
          · have c62_26 : r21.toInt = 0 := (cv_eq rfl (by decide)).mp c62_26
            refine lv_iconst (v := 0) hx hb dX9_takesTold_65 (by decide) ?_
            have qc0 : (0 : Int32).toInt = 0 := by decide
            refine W.widen (k := 0) (n := 0) (Nat.le_of_ble_eq_true rfl) (Nat.le_of_ble_eq_true rfl) ?_
            have hP9 := hP
            have hD9 := hD
            have hK9 := (rgK7_1b59772 hK)
            have hf9_0 : (0 ≤ a0_7.toInt ∧ a0_7.toInt ≤ 1000) := by omega
            have hf9_1 : (0 ≤ a0_8.toInt ∧ a0_8.toInt ≤ 1000) := by omega
            have hf9_2 : ((-1) ≤ r11.toInt ∧ r11.toInt ≤ 23) := by omega
            have hf9_3 : ((0 : Int32) = 0 ∨ (0 : Int32) = 1) := (by decide)
            have hf9_4 : ((0 : Int32).toInt = 1 → 0 ≤ r11.toInt ∧ (a1.toInt = 0 → r11.toInt < (a0_20_f a0_17.toNatClampNeg).toInt) ∧ (a1.toInt = 1 → r11.toInt < 8) ∧ (a1.toInt ≠ 0 ∧ a1.toInt ≠ 1 → r11.toInt < 4)) := by omega
            exact W.zret (v := 0) hx hb hr rfl (fun t ht hW => ⟨⟨0, 0, rfl, rfl, a0_7, a0_8, a0_9, a0_10, a0_11, za0_12_22, za0_13_23, r11, hf9_0, hf9_1, hf9_2, hf9_3, hf9_4, atB ht hP9, va_K.moved hW.alike hK9, hD9⟩, hS.F ht⟩) hS.2.2 dX9_takesTold_66
      · have c28_10 : a1.toInt = 1 := (cv_eq rfl (by decide)).mp c28_10
        refine lv_aload_n hx hb dX9_takesTold_31 rfl (lv_at hl 0 rfl) ?_
        have hPc := (rgP8_1ed3a8d hP)
        have hKc := (rgK7_194e198 hK)
        refine vp_callSi ((va_runV (As := []) (rest := [.ref a0]) ⟨hx, hb, hml, hown, hts⟩ (k_X9_personNamed l dC dI g (a0) (a0_0) (a0_1) (a0_2) (a0_3) (a0_4) (a0_5) (a0_6) (a0_7) (a0_8) (a0_9) (a0_10) (a0_11) (za0_12_4) (za0_13_5) (a0_14) (a0_15) (a0_16) (a0_17) (a0_18) (a0_19) (a0_20) (a0_21) (a0_22) (a0_23) (a0_24) (a0_25) (a0_26) (a0_27) (a0_28) (a0_29) (a0_30) (a0_31) (a0_32) (a0_33) (a0_34) (a0_35) (a0_36) (a0_37) (a0_38) (a0_39) (a0_40) (a0_41) (a0_42) (a0_43) (a0_18_c) (a0_18_f) (a0_22_c) (a0_22_f) (by omega) (by omega) (by omega) (by omega) (by omega) (by omega) (by omega) h_a0_18_f) (cwV 0 hts (gwV qw_487 qw_488 qw_489 qw_386 qw_486) rfl rfl rfl (by decide +kernel) ⟨Nat.le_of_ble_eq_true rfl, Nat.le_of_ble_eq_true rfl⟩) ⟨fun a U g9 mk q => ⟨q.1, q.2.1, va_K.moved (u := U) (U := U.calling g9 mk a) (Vm.Alike.refl U.vm) q.2.2.1, Ev.bl q.2.2.2⟩, va_recv hK hP (ci := 8) (q0 := 0) rfl rgL8_41f41bf, fun U hU hW => ⟨rfl, atB hU hPc, va_K.moved hW.alike hKc, hE.go hS (fun _ h => h.elim) hU hW⟩⟩ rfl rfl hl.1 rfl (lv_room (Nat.le_of_ble_eq_true rfl)) dX9_takesTold_32 ⟨Nat.le_of_ble_eq_true rfl, Nat.le_of_ble_eq_true rfl⟩)).run (fun r36 h_r36 => ?_)
        have h_r36 : (-1 ≤ r36.toInt ∧ r36.toInt < (a0_18_f a0_17.toNatClampNeg).toInt) := h_r36
        have b_r36 := i32b r36
        refine lv_goto (tgt := 42) hx hb dX9_takesTold_35 (by decide) ?_
        refine va_put (D := (dC, dI)) (ci := 8) (v := .int r36) (ty := .int) (C := RX9) (T := TX9) (N := 44) hx hb hts inlX9 tyX9 tyX9_ok nmX9 hown hK hP hD hS 0 rgL8_41f41bf rfl 37 (by decide) (hts (.fieldLink RX9 274 "ClosedUntilModel" "foundHere" "I") qw_499) (fun _ h9 => h9) rfl (by decide +kernel) rfl rfl (Nat.le_of_ble_eq_true rfl) dX9_takesTold_42 (fun H locs hP9 hD9 hS9 => ?_)
        clear hP hD hS
        obtain ⟨hP, hD⟩ := rgS8_9a11695 (e := (a0, .inr (8, [.int a0_0, .int a0_1, .int a0_2, .int a0_3, .ref a0_4, .int a0_5, .int a0_6, .int a0_7, .int a0_8, .int a0_9, .int a0_10, .long a0_11, .int za0_12_4, .int za0_13_5, .int a0_14, .int a0_15, .int a0_16, .int a0_17, .ref a0_18, .ref a0_19, .ref a0_20, .ref a0_21, .ref a0_22, .ref a0_23, .ref a0_24, .ref a0_25, .ref a0_26, .ref a0_27, .ref a0_28, .ref a0_29, .ref a0_30, .ref a0_31, .ref a0_32, .ref a0_33, .ref a0_34, .ref a0_35, .long a0_36, .int r36, .ref a0_38, .ref a0_39, .int a0_40, .ref a0_41, .ref a0_42, .ref a0_43]))) hP9 hD9 rfl
        have hS := hS9; clear hP9 hD9 hS9
        refine lv_aload_n hx hb dX9_takesTold_45 rfl (lv_at hl 0 rfl) ?_
        refine lv_aload_n hx hb dX9_takesTold_46 rfl (lv_at hl 0 rfl) ?_
        refine va_get (D := (dC, dI)) (ci := 8) (v := .int r36) (C := RX9) (T := TX9) (N := 44) hx hb hts inlX9 hown hK hP 0 rgL8_41f41bf rfl 37 (by decide) (hts (.fieldLink RX9 274 "ClosedUntilModel" "foundHere" "I") qw_499) (fun _ h9 => h9) rfl dX9_takesTold_47 ?_
        refine lv_if_lt (tgt := 57) hx hb dX9_takesTold_50 (by decide) (fun c50_37 => ?_) (fun c50_37 => ?_)
        · have c50_37 : r36.toInt < 0 := (cv_lt rfl (by decide)).mp c50_37
          refine lv_iconst (v := 0) hx hb dX9_takesTold_57 (by decide) ?_
          refine lv_iconst (v := 3) hx hb dX9_takesTold_58 (by decide) ?_
          have qc0 : (0 : Int32).toInt = 0 := by decide
          have qc3 : (3 : Int32).toInt = 3 := by decide
          have hPc := (rgP8_82ce498 hP)
          have hKc := (rgK7_1b59772 hK)
          have hDc := (rgD8_dd76439 hD)
          have hFc := freeW hDc hS hA
          refine va_calli (va_runV (As := [.int 0, .int 3]) (rest := []) ⟨hx, hb, hml, hown, hts⟩ (k_X9_must l dC dI g H.size (a0) (0) (3) (a0_0) (a0_1) (a0_2) (a0_3) (a0_4) (a0_5) (a0_6) (a0_7) (a0_8) (a0_9) (a0_10) (a0_11) (za0_12_4) (za0_13_5) (a0_14) (a0_15) (a0_16) (a0_17) (a0_18) (a0_19) (a0_20) (a0_21) (a0_22) (a0_23) (a0_24) (a0_25) (a0_26) (a0_27) (a0_28) (a0_29) (a0_30) (a0_31) (a0_32) (a0_33) (a0_34) (a0_35) (a0_36) (r36) (a0_38) (a0_39) (a0_40) (a0_41) (a0_42) (a0_43) (by omega) (by omega) (by omega) (by omega) (by omega) (by omega) (by omega) (by omega)) (cwV 2 hts (gwV qw_472 qw_473 qw_474 qw_386 qw_471) rfl rfl rfl (by decide +kernel) ⟨Nat.le_of_ble_eq_true rfl, Nat.le_of_ble_eq_true rfl⟩) ⟨fun a U g9 mk q => ⟨q.1, q.2.1, q.2.2.1, va_K.moved (u := U) (U := U.calling g9 mk a) (Vm.Alike.refl U.vm) q.2.2.2.1, q.2.2.2.2.1, Ev.bl q.2.2.2.2.2⟩, va_recv hK hP (ci := 8) (q0 := 0) rfl rgL8_41f41bf, fun U hU hW => ⟨rfl, by rw [hU], atB hU hPc, va_K.moved hW.alike hKc, hDc.weaken (fun _ _ _ _ => trivial), hE.go hS hFc hU hW⟩⟩ rfl rfl hl.1 rfl (lv_room (Nat.le_of_ble_eq_true rfl)) dX9_takesTold_59 ⟨Nat.le_of_ble_eq_true rfl, Nat.le_of_ble_eq_true rfl⟩) hS (fun q _ h => hFc q h) hFc (fun r39 u38 t H1 locs ht hvm h_u38 hB hz1 hk1 hS => ?_)
          obtain ⟨za0_12_40, za0_13_41, hF42, hF43, hP1, hK1, hD1⟩ := hB
          have hK1 := va_K.moved hvm.symm hK1
          have hJ9 := rgJ8_3415f12 hP hD hk1 hFc (atH ht hP1) hD1
          clear hP hD hPc hKc hDc hFc hP1 hD1 hk1 hz1
          obtain ⟨hP, hD⟩ := hJ9
          clear hK1
          generalize H1 = H at hP hS ⊢
          refine W.widen (k := 0) (n := 0) (Nat.le_of_ble_eq_true rfl) (Nat.le_of_ble_eq_true rfl) ?_
          have h_r39 := congrArg Int32.toInt h_u38
          have hz_r39 : r39 = 0 ∨ r39 = 1 := h_u38 ▸ hF42
          have b_r39 := z01 hz_r39
          refine cst (v := 0) (Int32.toInt_inj.mp (by rw [show (0 : Int32).toInt = 0 by decide]; omega)) ?_
          refine lv_if_ne (tgt := 67) hx hb dX9_takesTold_62 (by decide) (fun c62_44 => by exfalso; exact absurd c62_44 (by decide)) (fun c62_44 => ?_)
          refine lv_iconst (v := 0) hx hb dX9_takesTold_65 (by decide) ?_
          have qc0 : (0 : Int32).toInt = 0 := by decide
          refine W.widen (k := 0) (n := 0) (Nat.le_of_ble_eq_true rfl) (Nat.le_of_ble_eq_true rfl) ?_
          have hP9 := hP
          have hD9 := hD
          have hK9 := (rgK7_1b59772 hK)
          have hf9_0 : (0 ≤ a0_7.toInt ∧ a0_7.toInt ≤ 1000) := by omega
          have hf9_1 : (0 ≤ a0_8.toInt ∧ a0_8.toInt ≤ 1000) := by omega
          have hf9_2 : ((-1) ≤ r36.toInt ∧ r36.toInt ≤ 23) := by omega
          have hf9_3 : ((0 : Int32) = 0 ∨ (0 : Int32) = 1) := (by decide)
          have hf9_4 : ((0 : Int32).toInt = 1 → 0 ≤ r36.toInt ∧ (a1.toInt = 0 → r36.toInt < (a0_20_f a0_17.toNatClampNeg).toInt) ∧ (a1.toInt = 1 → r36.toInt < 8) ∧ (a1.toInt ≠ 0 ∧ a1.toInt ≠ 1 → r36.toInt < 4)) := by omega
          exact W.zret (v := 0) hx hb hr rfl (fun t ht hW => ⟨⟨0, 0, rfl, rfl, a0_7, a0_8, a0_9, a0_10, a0_11, za0_12_40, za0_13_41, r36, hf9_0, hf9_1, hf9_2, hf9_3, hf9_4, atB ht hP9, va_K.moved hW.alike hK9, hD9⟩, hS.F ht⟩) hS.2.2 dX9_takesTold_66
        · have c50_37 : ¬ (r36.toInt < 0) := mt (cv_lt rfl (by decide)).mpr c50_37
          refine lv_iconst (v := 1) hx hb dX9_takesTold_53 (by decide) ?_
          refine lv_goto (tgt := 58) hx hb dX9_takesTold_54 (by decide) ?_
          refine lv_iconst (v := 3) hx hb dX9_takesTold_58 (by decide) ?_
          have qc1 : (1 : Int32).toInt = 1 := by decide
          have qc3 : (3 : Int32).toInt = 3 := by decide
          have hPc := (rgP8_82ce498 hP)
          have hKc := (rgK7_1b59772 hK)
          have hDc := (rgD8_dd76439 hD)
          have hFc := freeW hDc hS hA
          refine va_calli (va_runV (As := [.int 1, .int 3]) (rest := []) ⟨hx, hb, hml, hown, hts⟩ (k_X9_must l dC dI g H.size (a0) (1) (3) (a0_0) (a0_1) (a0_2) (a0_3) (a0_4) (a0_5) (a0_6) (a0_7) (a0_8) (a0_9) (a0_10) (a0_11) (za0_12_4) (za0_13_5) (a0_14) (a0_15) (a0_16) (a0_17) (a0_18) (a0_19) (a0_20) (a0_21) (a0_22) (a0_23) (a0_24) (a0_25) (a0_26) (a0_27) (a0_28) (a0_29) (a0_30) (a0_31) (a0_32) (a0_33) (a0_34) (a0_35) (a0_36) (r36) (a0_38) (a0_39) (a0_40) (a0_41) (a0_42) (a0_43) (by omega) (by omega) (by omega) (by omega) (by omega) (by omega) (by omega) (by omega)) (cwV 2 hts (gwV qw_472 qw_473 qw_474 qw_386 qw_471) rfl rfl rfl (by decide +kernel) ⟨Nat.le_of_ble_eq_true rfl, Nat.le_of_ble_eq_true rfl⟩) ⟨fun a U g9 mk q => ⟨q.1, q.2.1, q.2.2.1, va_K.moved (u := U) (U := U.calling g9 mk a) (Vm.Alike.refl U.vm) q.2.2.2.1, q.2.2.2.2.1, Ev.bl q.2.2.2.2.2⟩, va_recv hK hP (ci := 8) (q0 := 0) rfl rgL8_41f41bf, fun U hU hW => ⟨rfl, by rw [hU], atB hU hPc, va_K.moved hW.alike hKc, hDc.weaken (fun _ _ _ _ => trivial), hE.go hS hFc hU hW⟩⟩ rfl rfl hl.1 rfl (lv_room (Nat.le_of_ble_eq_true rfl)) dX9_takesTold_59 ⟨Nat.le_of_ble_eq_true rfl, Nat.le_of_ble_eq_true rfl⟩) hS (fun q _ h => hFc q h) hFc (fun r46 u45 t H1 locs ht hvm h_u45 hB hz1 hk1 hS => ?_)
          obtain ⟨za0_12_47, za0_13_48, hF49, hF50, hP1, hK1, hD1⟩ := hB
          have hK1 := va_K.moved hvm.symm hK1
          have hJ9 := rgJ8_3415f12 hP hD hk1 hFc (atH ht hP1) hD1
          clear hP hD hPc hKc hDc hFc hP1 hD1 hk1 hz1
          obtain ⟨hP, hD⟩ := hJ9
          clear hK1
          generalize H1 = H at hP hS ⊢
          refine W.widen (k := 0) (n := 0) (Nat.le_of_ble_eq_true rfl) (Nat.le_of_ble_eq_true rfl) ?_
          have h_r46 := congrArg Int32.toInt h_u45
          have hz_r46 : r46 = 0 ∨ r46 = 1 := h_u45 ▸ hF49
          have b_r46 := z01 hz_r46
          refine lv_if_ne (tgt := 67) hx hb dX9_takesTold_62 (by decide) (fun c62_51 => ?_) (fun c62_51 => ?_)
          · have c62_51 : ¬ (r46.toInt = 0) := mt (cv_eq rfl (by decide)).mpr c62_51
            refine lv_aload_n hx hb dX9_takesTold_67 rfl (lv_at hl 0 rfl) ?_
            have hPc := (rgP8_955f498 hP)
            have hKc := (rgK7_b1c58f2 hK)
            have hDc := (rgD8_ed008bd hD)
            have hFc := freeW hDc hS hA
            refine va_callv (va_runV (As := []) (rest := []) ⟨hx, hb, hml, hown, hts⟩ (k_X9_steps l dC dI g H.size (a0) (a0_0) (a0_1) (a0_2) (a0_3) (a0_4) (a0_5) (a0_6) (a0_7) (a0_8) (a0_9) (a0_10) (a0_11) (za0_12_47) (za0_13_48) (a0_14) (a0_15) (a0_16) (a0_17) (a0_18) (a0_19) (a0_20) (a0_21) (a0_22) (a0_23) (a0_24) (a0_25) (a0_26) (a0_27) (a0_28) (a0_29) (a0_30) (a0_31) (a0_32) (a0_33) (a0_34) (a0_35) (a0_36) (r36) (a0_38) (a0_39) (a0_40) (a0_41) (a0_42) (a0_43) (a0_4_c) (a0_4_f) (by omega) (by omega) (by omega) (by omega) (by omega) (by omega) (by omega)) (cwV 0 hts (gwV qw_468 qw_469 qw_470 qw_386 qw_467) rfl rfl rfl (by decide +kernel) ⟨Nat.le_of_ble_eq_true rfl, Nat.le_of_ble_eq_true rfl⟩) ⟨fun a U g9 mk q => ⟨q.1, q.2.1, q.2.2.1, va_K.moved (u := U) (U := U.calling g9 mk a) (Vm.Alike.refl U.vm) q.2.2.2.1, q.2.2.2.2.1, Ev.bl q.2.2.2.2.2⟩, va_recv hK hP (ci := 8) (q0 := 0) rfl rgL8_41f41bf, fun U hU hW => ⟨rfl, by rw [hU], atB hU hPc, va_K.moved hW.alike hKc, hDc.weaken (fun _ _ _ _ => trivial), hE.go hS hFc hU hW⟩⟩ rfl rfl hl.1 rfl (lv_room (Nat.le_of_ble_eq_true rfl)) dX9_takesTold_68 ⟨Nat.le_of_ble_eq_true rfl, Nat.le_of_ble_eq_true rfl⟩) hS (fun q _ h => hFc q h) hFc (fun u52 t H1 locs ht hvm h_u52 hB hz1 hk1 hS => ?_)
            obtain ⟨za0_7_54, za0_8_55, za0_9_56, za0_10_57, za0_11_58, hF59, hF60, hP1, hK1, hD1⟩ := hB
            have hK1 := va_K.moved hvm.symm hK1
            have hJ9 := rgJ8_15367d9 hP hD hk1 hFc (atH ht hP1) hD1
            clear hP hD hPc hKc hDc hFc hP1 hD1 hk1 hz1
            obtain ⟨hP, hD⟩ := hJ9
            clear hK1
            generalize H1 = H at hP hS ⊢
            refine W.widen (k := 0) (n := 0) (Nat.le_of_ble_eq_true rfl) (Nat.le_of_ble_eq_true rfl) ?_
            refine lv_iconst (v := 1) hx hb dX9_takesTold_71 (by decide) ?_
            have qc1 : (1 : Int32).toInt = 1 := by decide
            refine W.widen (k := 0) (n := 0) (Nat.le_of_ble_eq_true rfl) (Nat.le_of_ble_eq_true rfl) ?_
            have hP9 := hP
            have hD9 := hD
            have hK9 := (rgK7_1b59772 hK)
            have hf9_0 : (0 ≤ za0_7_54.toInt ∧ za0_7_54.toInt ≤ 1000) := by omega
            have hf9_1 : (0 ≤ za0_8_55.toInt ∧ za0_8_55.toInt ≤ 1000) := by omega
            have hf9_2 : ((-1) ≤ r36.toInt ∧ r36.toInt ≤ 23) := by omega
            have hf9_3 : ((1 : Int32) = 0 ∨ (1 : Int32) = 1) := (by decide)
            have hf9_4 : ((1 : Int32).toInt = 1 → 0 ≤ r36.toInt ∧ (a1.toInt = 0 → r36.toInt < (a0_20_f a0_17.toNatClampNeg).toInt) ∧ (a1.toInt = 1 → r36.toInt < 8) ∧ (a1.toInt ≠ 0 ∧ a1.toInt ≠ 1 → r36.toInt < 4)) := by omega
            exact W.zret (v := 1) hx hb hr rfl (fun t ht hW => ⟨⟨1, 1, rfl, rfl, za0_7_54, za0_8_55, za0_9_56, za0_10_57, za0_11_58, za0_12_47, za0_13_48, r36, hf9_0, hf9_1, hf9_2, hf9_3, hf9_4, atB ht hP9, va_K.moved hW.alike hK9, hD9⟩, hS.F ht⟩) hS.2.2 dX9_takesTold_72
          · have c62_51 : r46.toInt = 0 := (cv_eq rfl (by decide)).mp c62_51
            refine lv_iconst (v := 0) hx hb dX9_takesTold_65 (by decide) ?_
            have qc0 : (0 : Int32).toInt = 0 := by decide
            refine W.widen (k := 0) (n := 0) (Nat.le_of_ble_eq_true rfl) (Nat.le_of_ble_eq_true rfl) ?_
            have hP9 := hP
            have hD9 := hD
            have hK9 := (rgK7_1b59772 hK)
            have hf9_0 : (0 ≤ a0_7.toInt ∧ a0_7.toInt ≤ 1000) := by omega
            have hf9_1 : (0 ≤ a0_8.toInt ∧ a0_8.toInt ≤ 1000) := by omega
            have hf9_2 : ((-1) ≤ r36.toInt ∧ r36.toInt ≤ 23) := by omega
            have hf9_3 : ((0 : Int32) = 0 ∨ (0 : Int32) = 1) := (by decide)
            have hf9_4 : ((0 : Int32).toInt = 1 → 0 ≤ r36.toInt ∧ (a1.toInt = 0 → r36.toInt < (a0_20_f a0_17.toNatClampNeg).toInt) ∧ (a1.toInt = 1 → r36.toInt < 8) ∧ (a1.toInt ≠ 0 ∧ a1.toInt ≠ 1 → r36.toInt < 4)) := by omega
            exact W.zret (v := 0) hx hb hr rfl (fun t ht hW => ⟨⟨0, 0, rfl, rfl, a0_7, a0_8, a0_9, a0_10, a0_11, za0_12_47, za0_13_48, r36, hf9_0, hf9_1, hf9_2, hf9_3, hf9_4, atB ht hP9, va_K.moved hW.alike hK9, hD9⟩, hS.F ht⟩) hS.2.2 dX9_takesTold_66
    · have c16_9 : a1.toInt = 0 := (cv_eq rfl (by decide)).mp c16_9
      refine lv_aload_n hx hb dX9_takesTold_19 rfl (lv_at hl 0 rfl) ?_
      have hPc := (rgP8_1569325 hP)
      have hKc := (rgK7_cd7aae6 hK)
      refine vp_callSi ((va_runV (As := []) (rest := [.ref a0]) ⟨hx, hb, hml, hown, hts⟩ (k_X9_pieceNamed l dC dI g (a0) (a0_0) (a0_1) (a0_2) (a0_3) (a0_4) (a0_5) (a0_6) (a0_7) (a0_8) (a0_9) (a0_10) (a0_11) (za0_12_4) (za0_13_5) (a0_14) (a0_15) (a0_16) (a0_17) (a0_18) (a0_19) (a0_20) (a0_21) (a0_22) (a0_23) (a0_24) (a0_25) (a0_26) (a0_27) (a0_28) (a0_29) (a0_30) (a0_31) (a0_32) (a0_33) (a0_34) (a0_35) (a0_36) (a0_37) (a0_38) (a0_39) (a0_40) (a0_41) (a0_42) (a0_43) (a0_20_c) (a0_20_f) (a0_27_c) (a0_27_f) (by omega) (by omega) (by omega) (by omega) (by omega) (by omega) (by omega) h_a0_20_f) (cwV 0 hts (gwV qw_495 qw_496 qw_497 qw_386 qw_494) rfl rfl rfl (by decide +kernel) ⟨Nat.le_of_ble_eq_true rfl, Nat.le_of_ble_eq_true rfl⟩) ⟨fun a U g9 mk q => ⟨q.1, q.2.1, va_K.moved (u := U) (U := U.calling g9 mk a) (Vm.Alike.refl U.vm) q.2.2.1, Ev.bl q.2.2.2⟩, va_recv hK hP (ci := 8) (q0 := 0) rfl rgL8_41f41bf, fun U hU hW => ⟨rfl, atB hU hPc, va_K.moved hW.alike hKc, hE.go hS (fun _ h => h.elim) hU hW⟩⟩ rfl rfl hl.1 rfl (lv_room (Nat.le_of_ble_eq_true rfl)) dX9_takesTold_20 ⟨Nat.le_of_ble_eq_true rfl, Nat.le_of_ble_eq_true rfl⟩)).run (fun r61 h_r61 => ?_)
      have h_r61 : (-1 ≤ r61.toInt ∧ r61.toInt < (a0_20_f a0_17.toNatClampNeg).toInt) := h_r61
      have b_r61 := i32b r61
      refine lv_goto (tgt := 42) hx hb dX9_takesTold_23 (by decide) ?_
      refine va_put (D := (dC, dI)) (ci := 8) (v := .int r61) (ty := .int) (C := RX9) (T := TX9) (N := 44) hx hb hts inlX9 tyX9 tyX9_ok nmX9 hown hK hP hD hS 0 rgL8_41f41bf rfl 37 (by decide) (hts (.fieldLink RX9 274 "ClosedUntilModel" "foundHere" "I") qw_499) (fun _ h9 => h9) rfl (by decide +kernel) rfl rfl (Nat.le_of_ble_eq_true rfl) dX9_takesTold_42 (fun H locs hP9 hD9 hS9 => ?_)
      clear hP hD hS
      obtain ⟨hP, hD⟩ := rgS8_9a11695 (e := (a0, .inr (8, [.int a0_0, .int a0_1, .int a0_2, .int a0_3, .ref a0_4, .int a0_5, .int a0_6, .int a0_7, .int a0_8, .int a0_9, .int a0_10, .long a0_11, .int za0_12_4, .int za0_13_5, .int a0_14, .int a0_15, .int a0_16, .int a0_17, .ref a0_18, .ref a0_19, .ref a0_20, .ref a0_21, .ref a0_22, .ref a0_23, .ref a0_24, .ref a0_25, .ref a0_26, .ref a0_27, .ref a0_28, .ref a0_29, .ref a0_30, .ref a0_31, .ref a0_32, .ref a0_33, .ref a0_34, .ref a0_35, .long a0_36, .int r61, .ref a0_38, .ref a0_39, .int a0_40, .ref a0_41, .ref a0_42, .ref a0_43]))) hP9 hD9 rfl
      have hS := hS9; clear hP9 hD9 hS9
      refine lv_aload_n hx hb dX9_takesTold_45 rfl (lv_at hl 0 rfl) ?_
      refine lv_aload_n hx hb dX9_takesTold_46 rfl (lv_at hl 0 rfl) ?_
      refine va_get (D := (dC, dI)) (ci := 8) (v := .int r61) (C := RX9) (T := TX9) (N := 44) hx hb hts inlX9 hown hK hP 0 rgL8_41f41bf rfl 37 (by decide) (hts (.fieldLink RX9 274 "ClosedUntilModel" "foundHere" "I") qw_499) (fun _ h9 => h9) rfl dX9_takesTold_47 ?_
      refine lv_if_lt (tgt := 57) hx hb dX9_takesTold_50 (by decide) (fun c50_62 => ?_) (fun c50_62 => ?_)
      · have c50_62 : r61.toInt < 0 := (cv_lt rfl (by decide)).mp c50_62
        refine lv_iconst (v := 0) hx hb dX9_takesTold_57 (by decide) ?_
        refine lv_iconst (v := 3) hx hb dX9_takesTold_58 (by decide) ?_
        have qc0 : (0 : Int32).toInt = 0 := by decide
        have qc3 : (3 : Int32).toInt = 3 := by decide
        have hPc := (rgP8_82ce498 hP)
        have hKc := (rgK7_1b59772 hK)
        have hDc := (rgD8_dd76439 hD)
        have hFc := freeW hDc hS hA
        refine va_calli (va_runV (As := [.int 0, .int 3]) (rest := []) ⟨hx, hb, hml, hown, hts⟩ (k_X9_must l dC dI g H.size (a0) (0) (3) (a0_0) (a0_1) (a0_2) (a0_3) (a0_4) (a0_5) (a0_6) (a0_7) (a0_8) (a0_9) (a0_10) (a0_11) (za0_12_4) (za0_13_5) (a0_14) (a0_15) (a0_16) (a0_17) (a0_18) (a0_19) (a0_20) (a0_21) (a0_22) (a0_23) (a0_24) (a0_25) (a0_26) (a0_27) (a0_28) (a0_29) (a0_30) (a0_31) (a0_32) (a0_33) (a0_34) (a0_35) (a0_36) (r61) (a0_38) (a0_39) (a0_40) (a0_41) (a0_42) (a0_43) (by omega) (by omega) (by omega) (by omega) (by omega) (by omega) (by omega) (by omega)) (cwV 2 hts (gwV qw_472 qw_473 qw_474 qw_386 qw_471) rfl rfl rfl (by decide +kernel) ⟨Nat.le_of_ble_eq_true rfl, Nat.le_of_ble_eq_true rfl⟩) ⟨fun a U g9 mk q => ⟨q.1, q.2.1, q.2.2.1, va_K.moved (u := U) (U := U.calling g9 mk a) (Vm.Alike.refl U.vm) q.2.2.2.1, q.2.2.2.2.1, Ev.bl q.2.2.2.2.2⟩, va_recv hK hP (ci := 8) (q0 := 0) rfl rgL8_41f41bf, fun U hU hW => ⟨rfl, by rw [hU], atB hU hPc, va_K.moved hW.alike hKc, hDc.weaken (fun _ _ _ _ => trivial), hE.go hS hFc hU hW⟩⟩ rfl rfl hl.1 rfl (lv_room (Nat.le_of_ble_eq_true rfl)) dX9_takesTold_59 ⟨Nat.le_of_ble_eq_true rfl, Nat.le_of_ble_eq_true rfl⟩) hS (fun q _ h => hFc q h) hFc (fun r64 u63 t H1 locs ht hvm h_u63 hB hz1 hk1 hS => ?_)
        obtain ⟨za0_12_65, za0_13_66, hF67, hF68, hP1, hK1, hD1⟩ := hB
        have hK1 := va_K.moved hvm.symm hK1
        have hJ9 := rgJ8_3415f12 hP hD hk1 hFc (atH ht hP1) hD1
        clear hP hD hPc hKc hDc hFc hP1 hD1 hk1 hz1
        obtain ⟨hP, hD⟩ := hJ9
        clear hK1
        generalize H1 = H at hP hS ⊢
        refine W.widen (k := 0) (n := 0) (Nat.le_of_ble_eq_true rfl) (Nat.le_of_ble_eq_true rfl) ?_
        have h_r64 := congrArg Int32.toInt h_u63
        have hz_r64 : r64 = 0 ∨ r64 = 1 := h_u63 ▸ hF67
        have b_r64 := z01 hz_r64
        refine cst (v := 0) (Int32.toInt_inj.mp (by rw [show (0 : Int32).toInt = 0 by decide]; omega)) ?_
        refine lv_if_ne (tgt := 67) hx hb dX9_takesTold_62 (by decide) (fun c62_69 => by exfalso; exact absurd c62_69 (by decide)) (fun c62_69 => ?_)
        refine lv_iconst (v := 0) hx hb dX9_takesTold_65 (by decide) ?_
        have qc0 : (0 : Int32).toInt = 0 := by decide
        refine W.widen (k := 0) (n := 0) (Nat.le_of_ble_eq_true rfl) (Nat.le_of_ble_eq_true rfl) ?_
        have hP9 := hP
        have hD9 := hD
        have hK9 := (rgK7_1b59772 hK)
        have hf9_0 : (0 ≤ a0_7.toInt ∧ a0_7.toInt ≤ 1000) := by omega
        have hf9_1 : (0 ≤ a0_8.toInt ∧ a0_8.toInt ≤ 1000) := by omega
        have hf9_2 : ((-1) ≤ r61.toInt ∧ r61.toInt ≤ 23) := by omega
        have hf9_3 : ((0 : Int32) = 0 ∨ (0 : Int32) = 1) := (by decide)
        have hf9_4 : ((0 : Int32).toInt = 1 → 0 ≤ r61.toInt ∧ (a1.toInt = 0 → r61.toInt < (a0_20_f a0_17.toNatClampNeg).toInt) ∧ (a1.toInt = 1 → r61.toInt < 8) ∧ (a1.toInt ≠ 0 ∧ a1.toInt ≠ 1 → r61.toInt < 4)) := by omega
        exact W.zret (v := 0) hx hb hr rfl (fun t ht hW => ⟨⟨0, 0, rfl, rfl, a0_7, a0_8, a0_9, a0_10, a0_11, za0_12_65, za0_13_66, r61, hf9_0, hf9_1, hf9_2, hf9_3, hf9_4, atB ht hP9, va_K.moved hW.alike hK9, hD9⟩, hS.F ht⟩) hS.2.2 dX9_takesTold_66
      · have c50_62 : ¬ (r61.toInt < 0) := mt (cv_lt rfl (by decide)).mpr c50_62
        refine lv_iconst (v := 1) hx hb dX9_takesTold_53 (by decide) ?_
        refine lv_goto (tgt := 58) hx hb dX9_takesTold_54 (by decide) ?_
        refine lv_iconst (v := 3) hx hb dX9_takesTold_58 (by decide) ?_
        have qc1 : (1 : Int32).toInt = 1 := by decide
        have qc3 : (3 : Int32).toInt = 3 := by decide
        have hPc := (rgP8_82ce498 hP)
        have hKc := (rgK7_1b59772 hK)
        have hDc := (rgD8_dd76439 hD)
        have hFc := freeW hDc hS hA
        refine va_calli (va_runV (As := [.int 1, .int 3]) (rest := []) ⟨hx, hb, hml, hown, hts⟩ (k_X9_must l dC dI g H.size (a0) (1) (3) (a0_0) (a0_1) (a0_2) (a0_3) (a0_4) (a0_5) (a0_6) (a0_7) (a0_8) (a0_9) (a0_10) (a0_11) (za0_12_4) (za0_13_5) (a0_14) (a0_15) (a0_16) (a0_17) (a0_18) (a0_19) (a0_20) (a0_21) (a0_22) (a0_23) (a0_24) (a0_25) (a0_26) (a0_27) (a0_28) (a0_29) (a0_30) (a0_31) (a0_32) (a0_33) (a0_34) (a0_35) (a0_36) (r61) (a0_38) (a0_39) (a0_40) (a0_41) (a0_42) (a0_43) (by omega) (by omega) (by omega) (by omega) (by omega) (by omega) (by omega) (by omega)) (cwV 2 hts (gwV qw_472 qw_473 qw_474 qw_386 qw_471) rfl rfl rfl (by decide +kernel) ⟨Nat.le_of_ble_eq_true rfl, Nat.le_of_ble_eq_true rfl⟩) ⟨fun a U g9 mk q => ⟨q.1, q.2.1, q.2.2.1, va_K.moved (u := U) (U := U.calling g9 mk a) (Vm.Alike.refl U.vm) q.2.2.2.1, q.2.2.2.2.1, Ev.bl q.2.2.2.2.2⟩, va_recv hK hP (ci := 8) (q0 := 0) rfl rgL8_41f41bf, fun U hU hW => ⟨rfl, by rw [hU], atB hU hPc, va_K.moved hW.alike hKc, hDc.weaken (fun _ _ _ _ => trivial), hE.go hS hFc hU hW⟩⟩ rfl rfl hl.1 rfl (lv_room (Nat.le_of_ble_eq_true rfl)) dX9_takesTold_59 ⟨Nat.le_of_ble_eq_true rfl, Nat.le_of_ble_eq_true rfl⟩) hS (fun q _ h => hFc q h) hFc (fun r71 u70 t H1 locs ht hvm h_u70 hB hz1 hk1 hS => ?_)
        obtain ⟨za0_12_72, za0_13_73, hF74, hF75, hP1, hK1, hD1⟩ := hB
        have hK1 := va_K.moved hvm.symm hK1
        have hJ9 := rgJ8_3415f12 hP hD hk1 hFc (atH ht hP1) hD1
        clear hP hD hPc hKc hDc hFc hP1 hD1 hk1 hz1
        obtain ⟨hP, hD⟩ := hJ9
        clear hK1
        generalize H1 = H at hP hS ⊢
        refine W.widen (k := 0) (n := 0) (Nat.le_of_ble_eq_true rfl) (Nat.le_of_ble_eq_true rfl) ?_
        have h_r71 := congrArg Int32.toInt h_u70
        have hz_r71 : r71 = 0 ∨ r71 = 1 := h_u70 ▸ hF74
        have b_r71 := z01 hz_r71
        refine lv_if_ne (tgt := 67) hx hb dX9_takesTold_62 (by decide) (fun c62_76 => ?_) (fun c62_76 => ?_)
        · have c62_76 : ¬ (r71.toInt = 0) := mt (cv_eq rfl (by decide)).mpr c62_76
          refine lv_aload_n hx hb dX9_takesTold_67 rfl (lv_at hl 0 rfl) ?_
          have hPc := (rgP8_955f498 hP)
          have hKc := (rgK7_b1c58f2 hK)
          have hDc := (rgD8_ed008bd hD)
          have hFc := freeW hDc hS hA
          refine va_callv (va_runV (As := []) (rest := []) ⟨hx, hb, hml, hown, hts⟩ (k_X9_steps l dC dI g H.size (a0) (a0_0) (a0_1) (a0_2) (a0_3) (a0_4) (a0_5) (a0_6) (a0_7) (a0_8) (a0_9) (a0_10) (a0_11) (za0_12_72) (za0_13_73) (a0_14) (a0_15) (a0_16) (a0_17) (a0_18) (a0_19) (a0_20) (a0_21) (a0_22) (a0_23) (a0_24) (a0_25) (a0_26) (a0_27) (a0_28) (a0_29) (a0_30) (a0_31) (a0_32) (a0_33) (a0_34) (a0_35) (a0_36) (r61) (a0_38) (a0_39) (a0_40) (a0_41) (a0_42) (a0_43) (a0_4_c) (a0_4_f) (by omega) (by omega) (by omega) (by omega) (by omega) (by omega) (by omega)) (cwV 0 hts (gwV qw_468 qw_469 qw_470 qw_386 qw_467) rfl rfl rfl (by decide +kernel) ⟨Nat.le_of_ble_eq_true rfl, Nat.le_of_ble_eq_true rfl⟩) ⟨fun a U g9 mk q => ⟨q.1, q.2.1, q.2.2.1, va_K.moved (u := U) (U := U.calling g9 mk a) (Vm.Alike.refl U.vm) q.2.2.2.1, q.2.2.2.2.1, Ev.bl q.2.2.2.2.2⟩, va_recv hK hP (ci := 8) (q0 := 0) rfl rgL8_41f41bf, fun U hU hW => ⟨rfl, by rw [hU], atB hU hPc, va_K.moved hW.alike hKc, hDc.weaken (fun _ _ _ _ => trivial), hE.go hS hFc hU hW⟩⟩ rfl rfl hl.1 rfl (lv_room (Nat.le_of_ble_eq_true rfl)) dX9_takesTold_68 ⟨Nat.le_of_ble_eq_true rfl, Nat.le_of_ble_eq_true rfl⟩) hS (fun q _ h => hFc q h) hFc (fun u77 t H1 locs ht hvm h_u77 hB hz1 hk1 hS => ?_)
          obtain ⟨za0_7_79, za0_8_80, za0_9_81, za0_10_82, za0_11_83, hF84, hF85, hP1, hK1, hD1⟩ := hB
          have hK1 := va_K.moved hvm.symm hK1
          have hJ9 := rgJ8_15367d9 hP hD hk1 hFc (atH ht hP1) hD1
          clear hP hD hPc hKc hDc hFc hP1 hD1 hk1 hz1
          obtain ⟨hP, hD⟩ := hJ9
          clear hK1
          generalize H1 = H at hP hS ⊢
          refine W.widen (k := 0) (n := 0) (Nat.le_of_ble_eq_true rfl) (Nat.le_of_ble_eq_true rfl) ?_
          refine lv_iconst (v := 1) hx hb dX9_takesTold_71 (by decide) ?_
          have qc1 : (1 : Int32).toInt = 1 := by decide
          refine W.widen (k := 0) (n := 0) (Nat.le_of_ble_eq_true rfl) (Nat.le_of_ble_eq_true rfl) ?_
          have hP9 := hP
          have hD9 := hD
          have hK9 := (rgK7_1b59772 hK)
          have hf9_0 : (0 ≤ za0_7_79.toInt ∧ za0_7_79.toInt ≤ 1000) := by omega
          have hf9_1 : (0 ≤ za0_8_80.toInt ∧ za0_8_80.toInt ≤ 1000) := by omega
          have hf9_2 : ((-1) ≤ r61.toInt ∧ r61.toInt ≤ 23) := by omega
          have hf9_3 : ((1 : Int32) = 0 ∨ (1 : Int32) = 1) := (by decide)
          have hf9_4 : ((1 : Int32).toInt = 1 → 0 ≤ r61.toInt ∧ (a1.toInt = 0 → r61.toInt < (a0_20_f a0_17.toNatClampNeg).toInt) ∧ (a1.toInt = 1 → r61.toInt < 8) ∧ (a1.toInt ≠ 0 ∧ a1.toInt ≠ 1 → r61.toInt < 4)) := by omega
          exact W.zret (v := 1) hx hb hr rfl (fun t ht hW => ⟨⟨1, 1, rfl, rfl, za0_7_79, za0_8_80, za0_9_81, za0_10_82, za0_11_83, za0_12_72, za0_13_73, r61, hf9_0, hf9_1, hf9_2, hf9_3, hf9_4, atB ht hP9, va_K.moved hW.alike hK9, hD9⟩, hS.F ht⟩) hS.2.2 dX9_takesTold_72
        · have c62_76 : r71.toInt = 0 := (cv_eq rfl (by decide)).mp c62_76
          refine lv_iconst (v := 0) hx hb dX9_takesTold_65 (by decide) ?_
          have qc0 : (0 : Int32).toInt = 0 := by decide
          refine W.widen (k := 0) (n := 0) (Nat.le_of_ble_eq_true rfl) (Nat.le_of_ble_eq_true rfl) ?_
          have hP9 := hP
          have hD9 := hD
          have hK9 := (rgK7_1b59772 hK)
          have hf9_0 : (0 ≤ a0_7.toInt ∧ a0_7.toInt ≤ 1000) := by omega
          have hf9_1 : (0 ≤ a0_8.toInt ∧ a0_8.toInt ≤ 1000) := by omega
          have hf9_2 : ((-1) ≤ r61.toInt ∧ r61.toInt ≤ 23) := by omega
          have hf9_3 : ((0 : Int32) = 0 ∨ (0 : Int32) = 1) := (by decide)
          have hf9_4 : ((0 : Int32).toInt = 1 → 0 ≤ r61.toInt ∧ (a1.toInt = 0 → r61.toInt < (a0_20_f a0_17.toNatClampNeg).toInt) ∧ (a1.toInt = 1 → r61.toInt < 8) ∧ (a1.toInt ≠ 0 ∧ a1.toInt ≠ 1 → r61.toInt < 4)) := by omega
          exact W.zret (v := 0) hx hb hr rfl (fun t ht hW => ⟨⟨0, 0, rfl, rfl, a0_7, a0_8, a0_9, a0_10, a0_11, za0_12_72, za0_13_73, r61, hf9_0, hf9_1, hf9_2, hf9_3, hf9_4, atB ht hP9, va_K.moved hW.alike hK9, hD9⟩, hS.F ht⟩) hS.2.2 dX9_takesTold_66
  · have c9_8 : r3.toInt = 0 := (cv_eq rfl (by decide)).mp c9_8
    refine lv_iconst (v := 0) hx hb dX9_takesTold_12 (by decide) ?_
    have qc0 : (0 : Int32).toInt = 0 := by decide
    refine W.widen (k := 0) (n := 0) (Nat.le_of_ble_eq_true rfl) (Nat.le_of_ble_eq_true rfl) ?_
    have hP9 := hP
    have hD9 := hD
    have hK9 := (rgK7_1b59772 hK)
    have hf9_0 : (0 ≤ a0_7.toInt ∧ a0_7.toInt ≤ 1000) := by omega
    have hf9_1 : (0 ≤ a0_8.toInt ∧ a0_8.toInt ≤ 1000) := by omega
    have hf9_2 : ((-1) ≤ a0_37.toInt ∧ a0_37.toInt ≤ 23) := by omega
    have hf9_3 : ((0 : Int32) = 0 ∨ (0 : Int32) = 1) := (by decide)
    have hf9_4 : ((0 : Int32).toInt = 1 → 0 ≤ a0_37.toInt ∧ (a1.toInt = 0 → a0_37.toInt < (a0_20_f a0_17.toNatClampNeg).toInt) ∧ (a1.toInt = 1 → a0_37.toInt < 8) ∧ (a1.toInt ≠ 0 ∧ a1.toInt ≠ 1 → a0_37.toInt < 4)) := by omega
    exact W.zret (v := 0) hx hb hr rfl (fun t ht hW => ⟨⟨0, 0, rfl, rfl, a0_7, a0_8, a0_9, a0_10, a0_11, za0_12_4, za0_13_5, a0_37, hf9_0, hf9_1, hf9_2, hf9_3, hf9_4, atB ht hP9, va_K.moved hW.alike hK9, hD9⟩, hS.F ht⟩) hS.2.2 dX9_takesTold_13
set_option maxHeartbeats 4000000 in
set_option maxRecDepth 100000 in
theorem k_X9_takesOf (l : Launch) (dC : Nat → ClassId) (dI : Nat → Nat → Nat) (g : Gv) (sz : Nat) (a0 : Nat) (a1 : Int32) (a0_0 : Int32) (a0_1 : Int32) (a0_2 : Int32) (a0_3 : Int32) (a0_4 : Nat) (a0_5 : Int32) (a0_6 : Int32) (a0_7 : Int32) (a0_8 : Int32) (a0_9 : Int32) (a0_10 : Int32) (a0_11 : Int64) (a0_12 : Int32) (a0_13 : Int32) (a0_14 : Int32) (a0_15 : Int32) (a0_16 : Int32) (a0_17 : Int32) (a0_18 : Nat) (a0_19 : Nat) (a0_20 : Nat) (a0_21 : Nat) (a0_22 : Nat) (a0_23 : Nat) (a0_24 : Nat) (a0_25 : Nat) (a0_26 : Nat) (a0_27 : Nat) (a0_28 : Nat) (a0_29 : Nat) (a0_30 : Nat) (a0_31 : Nat) (a0_32 : Nat) (a0_33 : Nat) (a0_34 : Nat) (a0_35 : Nat) (a0_36 : Int64) (a0_37 : Int32) (a0_38 : Nat) (a0_39 : Nat) (a0_40 : Int32) (a0_41 : Nat) (a0_42 : Nat) (a0_43 : Nat) (a0_4_c : ClassId) (a0_4_f : Nat → Int32) (a0_18_c : ClassId) (a0_18_f : Nat → Int32) (a0_22_c : ClassId) (a0_22_f : Nat → Int64) (a0_30_c : ClassId) (a0_30_f : Nat → Int32) (h_a0_5 : 0 ≤ a0_5.toInt ∧ a0_5.toInt ≤ 1000) (h_a0_6 : 0 ≤ a0_6.toInt ∧ a0_6.toInt ≤ 1000) (h_a0_7 : 0 ≤ a0_7.toInt ∧ a0_7.toInt ≤ 1000) (h_a0_8 : 0 ≤ a0_8.toInt ∧ a0_8.toInt ≤ 1000) (h_a0_17 : 0 ≤ a0_17.toInt ∧ a0_17.toInt ≤ 1) (h_a0_37 : (-1) ≤ a0_37.toInt ∧ a0_37.toInt ≤ 23) (h_a0_40 : 0 ≤ a0_40.toInt ∧ a0_40.toInt ≤ 12) (h_a0_18_f : vr 0 8 a0_18_f) (ha1r : 0 ≤ a1.toInt ∧ a1.toInt < 48) : Met l yX9_takesOf (.code yX9_takesOf cX9_takesOf 4 (some .boolean) :: TBL) ({ frames := 8, cells := 0, slots := 0, locals := 244 }) (va_Pc [.ref a0, .int a1] (fun U => U.heap.size = sz ∧ va_P (dC, dI) vwCl [(a0, .inr (8, [.int a0_0, .int a0_1, .int a0_2, .int a0_3, .ref a0_4, .int a0_5, .int a0_6, .int a0_7, .int a0_8, .int a0_9, .int a0_10, .long a0_11, .int a0_12, .int a0_13, .int a0_14, .int a0_15, .int a0_16, .int a0_17, .ref a0_18, .ref a0_19, .ref a0_20, .ref a0_21, .ref a0_22, .ref a0_23, .ref a0_24, .ref a0_25, .ref a0_26, .ref a0_27, .ref a0_28, .ref a0_29, .ref a0_30, .ref a0_31, .ref a0_32, .ref a0_33, .ref a0_34, .ref a0_35, .long a0_36, .int a0_37, .ref a0_38, .ref a0_39, .int a0_40, .ref a0_41, .ref a0_42, .ref a0_43])), (a0_4, .inl (a0_4_c, 1000, .inl a0_4_f)), (a0_18, .inl (a0_18_c, 2, .inl a0_18_f)), (a0_22, .inl (a0_22_c, 16, .inr (.inl a0_22_f))), (a0_30, .inl (a0_30_c, 48, .inl a0_30_f))] U.heap ∧ va_K (dC, dI) vwCl [(a0_4_c, .byte), (a0_18_c, .int), (a0_22_c, .long), (a0_30_c, .int)] U ∧ va_D (fun _ => True) [(a0, .inr (8, [.int a0_0, .int a0_1, .int a0_2, .int a0_3, .ref a0_4, .int a0_5, .int a0_6, .int a0_7, .int a0_8, .int a0_9, .int a0_10, .long a0_11, .int a0_12, .int a0_13, .int a0_14, .int a0_15, .int a0_16, .int a0_17, .ref a0_18, .ref a0_19, .ref a0_20, .ref a0_21, .ref a0_22, .ref a0_23, .ref a0_24, .ref a0_25, .ref a0_26, .ref a0_27, .ref a0_28, .ref a0_29, .ref a0_30, .ref a0_31, .ref a0_32, .ref a0_33, .ref a0_34, .ref a0_35, .long a0_36, .int a0_37, .ref a0_38, .ref a0_39, .int a0_40, .ref a0_41, .ref a0_42, .ref a0_43])), (a0_4, .inl (a0_4_c, 1000, .inl a0_4_f)), (a0_18, .inl (a0_18_c, 2, .inl a0_18_f)), (a0_22, .inl (a0_22_c, 16, .inr (.inl a0_22_f))), (a0_30, .inl (a0_30_c, 48, .inl a0_30_f))] ∧ Ev g (va_A [(a0, .inr (8, [.int a0_0, .int a0_1, .int a0_2, .int a0_3, .ref a0_4, .int a0_5, .int a0_6, .int a0_7, .int a0_8, .int a0_9, .int a0_10, .long a0_11, .int a0_12, .int a0_13, .int a0_14, .int a0_15, .int a0_16, .int a0_17, .ref a0_18, .ref a0_19, .ref a0_20, .ref a0_21, .ref a0_22, .ref a0_23, .ref a0_24, .ref a0_25, .ref a0_26, .ref a0_27, .ref a0_28, .ref a0_29, .ref a0_30, .ref a0_31, .ref a0_32, .ref a0_33, .ref a0_34, .ref a0_35, .long a0_36, .int a0_37, .ref a0_38, .ref a0_39, .int a0_40, .ref a0_41, .ref a0_42, .ref a0_43])), (a0_4, .inl (a0_4_c, 1000, .inl a0_4_f)), (a0_18, .inl (a0_18_c, 2, .inl a0_18_f)), (a0_22, .inl (a0_22_c, 16, .inr (.inl a0_22_f))), (a0_30, .inl (a0_30_c, 48, .inl a0_30_f))] sz) U)) (va_Qi (fun (r : Int32) (u : Int32) => u = r) (fun (u : Int32) (t : State) => ∃ (za0_7 : Int32) (za0_8 : Int32) (za0_9 : Int32) (za0_10 : Int32) (za0_11 : Int64) (za0_12 : Int32) (za0_13 : Int32) (za0_30_f : Nat → Int32), (0 ≤ za0_7.toInt ∧ za0_7.toInt ≤ 1000) ∧ (0 ≤ za0_8.toInt ∧ za0_8.toInt ≤ 1000) ∧ (u = 0 ∨ u = 1) ∧ va_P (dC, dI) vwCl [(a0, .inr (8, [.int a0_0, .int a0_1, .int a0_2, .int a0_3, .ref a0_4, .int a0_5, .int a0_6, .int za0_7, .int za0_8, .int za0_9, .int za0_10, .long za0_11, .int za0_12, .int za0_13, .int a0_14, .int a0_15, .int a0_16, .int a0_17, .ref a0_18, .ref a0_19, .ref a0_20, .ref a0_21, .ref a0_22, .ref a0_23, .ref a0_24, .ref a0_25, .ref a0_26, .ref a0_27, .ref a0_28, .ref a0_29, .ref a0_30, .ref a0_31, .ref a0_32, .ref a0_33, .ref a0_34, .ref a0_35, .long a0_36, .int a0_37, .ref a0_38, .ref a0_39, .int a0_40, .ref a0_41, .ref a0_42, .ref a0_43])), (a0_4, .inl (a0_4_c, 1000, .inl a0_4_f)), (a0_18, .inl (a0_18_c, 2, .inl a0_18_f)), (a0_22, .inl (a0_22_c, 16, .inr (.inl a0_22_f))), (a0_30, .inl (a0_30_c, 48, .inl za0_30_f))] t.heap ∧ va_K (dC, dI) vwCl [] t ∧ va_D (va_A [(a0, .inr (8, [.int a0_0, .int a0_1, .int a0_2, .int a0_3, .ref a0_4, .int a0_5, .int a0_6, .int a0_7, .int a0_8, .int a0_9, .int a0_10, .long a0_11, .int a0_12, .int a0_13, .int a0_14, .int a0_15, .int a0_16, .int a0_17, .ref a0_18, .ref a0_19, .ref a0_20, .ref a0_21, .ref a0_22, .ref a0_23, .ref a0_24, .ref a0_25, .ref a0_26, .ref a0_27, .ref a0_28, .ref a0_29, .ref a0_30, .ref a0_31, .ref a0_32, .ref a0_33, .ref a0_34, .ref a0_35, .long a0_36, .int a0_37, .ref a0_38, .ref a0_39, .int a0_40, .ref a0_41, .ref a0_42, .ref a0_43])), (a0_4, .inl (a0_4_c, 1000, .inl a0_4_f)), (a0_18, .inl (a0_18_c, 2, .inl a0_18_f)), (a0_22, .inl (a0_22_c, 16, .inr (.inl a0_22_f))), (a0_30, .inl (a0_30_c, 48, .inl a0_30_f))] sz) [(a0, .inr (8, [.int a0_0, .int a0_1, .int a0_2, .int a0_3, .ref a0_4, .int a0_5, .int a0_6, .int za0_7, .int za0_8, .int za0_9, .int za0_10, .long za0_11, .int za0_12, .int za0_13, .int a0_14, .int a0_15, .int a0_16, .int a0_17, .ref a0_18, .ref a0_19, .ref a0_20, .ref a0_21, .ref a0_22, .ref a0_23, .ref a0_24, .ref a0_25, .ref a0_26, .ref a0_27, .ref a0_28, .ref a0_29, .ref a0_30, .ref a0_31, .ref a0_32, .ref a0_33, .ref a0_34, .ref a0_35, .long a0_36, .int a0_37, .ref a0_38, .ref a0_39, .int a0_40, .ref a0_41, .ref a0_42, .ref a0_43])), (a0_4, .inl (a0_4_c, 1000, .inl a0_4_f)), (a0_18, .inl (a0_18_c, 2, .inl a0_18_f)), (a0_22, .inl (a0_22_c, 16, .inr (.inl a0_22_f))), (a0_30, .inl (a0_30_c, 48, .inl za0_30_f))]) (va_A [(a0, .inr (8, [.int a0_0, .int a0_1, .int a0_2, .int a0_3, .ref a0_4, .int a0_5, .int a0_6, .int a0_7, .int a0_8, .int a0_9, .int a0_10, .long a0_11, .int a0_12, .int a0_13, .int a0_14, .int a0_15, .int a0_16, .int a0_17, .ref a0_18, .ref a0_19, .ref a0_20, .ref a0_21, .ref a0_22, .ref a0_23, .ref a0_24, .ref a0_25, .ref a0_26, .ref a0_27, .ref a0_28, .ref a0_29, .ref a0_30, .ref a0_31, .ref a0_32, .ref a0_33, .ref a0_34, .ref a0_35, .long a0_36, .int a0_37, .ref a0_38, .ref a0_39, .int a0_40, .ref a0_41, .ref a0_42, .ref a0_43])), (a0_4, .inl (a0_4_c, 1000, .inl a0_4_f)), (a0_18, .inl (a0_18_c, 2, .inl a0_18_f)), (a0_22, .inl (a0_22_c, 16, .inr (.inl a0_22_f))), (a0_30, .inl (a0_30_c, 48, .inl a0_30_f))] sz)) 0 0 (va_A [(a0, .inr (8, [.int a0_0, .int a0_1, .int a0_2, .int a0_3, .ref a0_4, .int a0_5, .int a0_6, .int a0_7, .int a0_8, .int a0_9, .int a0_10, .long a0_11, .int a0_12, .int a0_13, .int a0_14, .int a0_15, .int a0_16, .int a0_17, .ref a0_18, .ref a0_19, .ref a0_20, .ref a0_21, .ref a0_22, .ref a0_23, .ref a0_24, .ref a0_25, .ref a0_26, .ref a0_27, .ref a0_28, .ref a0_29, .ref a0_30, .ref a0_31, .ref a0_32, .ref a0_33, .ref a0_34, .ref a0_35, .long a0_36, .int a0_37, .ref a0_38, .ref a0_39, .int a0_40, .ref a0_41, .ref a0_42, .ref a0_43])), (a0_4, .inl (a0_4_c, 1000, .inl a0_4_f)), (a0_18, .inl (a0_18_c, 2, .inl a0_18_f)), (a0_22, .inl (a0_22_c, 16, .inr (.inl a0_22_f))), (a0_30, .inl (a0_30_c, 48, .inl a0_30_f))] sz) := by
  refine Met.ofW (cc := cX9_takesOf) (maxL := 4) (ret := (some .boolean)) (by decide) rfl ?_
  intro p e s m args below meth c s₁ B hml hv
  obtain ⟨rfl, hsz, hP, hK, hD0, hE⟩ := hv
  have hx := B.exec
  have hb := B.bytes
  have hr := B.returns
  have hts0 := atoms_spec (ws := (.code yX9_takesOf cX9_takesOf 4 (some .boolean) :: TBL)) B.pre
  have hts := fun (w : Cond) (h : w ∈ TBL) => hts0 w (List.mem_cons_of_mem _ h)
  have hown : s.vm.findClass RX9 = some m.cls := findClass_of_methodNamed B.named
  have hlocks := B.notSynchronized
  have hN := hE.1
  subst hsz
  have hD := hD0.self (sz := s.heap.size)
  generalize hAe : va_A [(a0, .inr (8, [.int a0_0, .int a0_1, .int a0_2, .int a0_3, .ref a0_4, .int a0_5, .int a0_6, .int a0_7, .int a0_8, .int a0_9, .int a0_10, .long a0_11, .int a0_12, .int a0_13, .int a0_14, .int a0_15, .int a0_16, .int a0_17, .ref a0_18, .ref a0_19, .ref a0_20, .ref a0_21, .ref a0_22, .ref a0_23, .ref a0_24, .ref a0_25, .ref a0_26, .ref a0_27, .ref a0_28, .ref a0_29, .ref a0_30, .ref a0_31, .ref a0_32, .ref a0_33, .ref a0_34, .ref a0_35, .long a0_36, .int a0_37, .ref a0_38, .ref a0_39, .int a0_40, .ref a0_41, .ref a0_42, .ref a0_43])), (a0_4, .inl (a0_4_c, 1000, .inl a0_4_f)), (a0_18, .inl (a0_18_c, 2, .inl a0_18_f)), (a0_22, .inl (a0_22_c, 16, .inr (.inl a0_22_f))), (a0_30, .inl (a0_30_c, 48, .inl a0_30_f))] s.heap.size = A at hD hE ⊢
  have hA : ∀ q : Nat, s.heap.size ≤ q → A q := fun q h => by rw [← hAe]; exact Or.inr h
  have hS : va_S A s.heap s.heap [] := va_S.rf
  replace hP : va_P (dC, dI) vwCl [(a0, .inr (8, [.int a0_0, .int a0_1, .int a0_2, .int a0_3, .ref a0_4, .int a0_5, .int a0_6, .int a0_7, .int a0_8, .int a0_9, .int a0_10, .long a0_11, .int a0_12, .int a0_13, .int a0_14, .int a0_15, .int a0_16, .int a0_17, .ref a0_18, .ref a0_19, .ref a0_20, .ref a0_21, .ref a0_22, .ref a0_23, .ref a0_24, .ref a0_25, .ref a0_26, .ref a0_27, .ref a0_28, .ref a0_29, .ref a0_30, .ref a0_31, .ref a0_32, .ref a0_33, .ref a0_34, .ref a0_35, .long a0_36, .int a0_37, .ref a0_38, .ref a0_39, .int a0_40, .ref a0_41, .ref a0_42, .ref a0_43])), (a0_4, .inl (a0_4_c, 1000, .inl a0_4_f)), (a0_18, .inl (a0_18_c, 2, .inl a0_18_f)), (a0_22, .inl (a0_22_c, 16, .inr (.inl a0_22_f))), (a0_30, .inl (a0_30_c, 48, .inl a0_30_f))] s.heap := hP
  have hl := lv_entry ([.ref a0, .int a1]) (n := 4) (Nat.le_of_ble_eq_true rfl)
  rw [lg_entry_eq]
  generalize (lg_sl ([.ref a0, .int a1]) ++ List.replicate (4 - (lg_sl ([.ref a0, .int a1])).length) Slot.unset).toArray = ls at hl ⊢
  have hl : lv_has ls 4 [(0, .ref a0), (1, .int a1)] := hl
  have b_a1 := i32b a1
  have b_a0_0 := i32b a0_0
  have b_a0_1 := i32b a0_1
  have b_a0_2 := i32b a0_2
  have b_a0_3 := i32b a0_3
  have b_a0_9 := i32b a0_9
  have b_a0_10 := i32b a0_10
  have b_a0_12 := i32b a0_12
  have b_a0_13 := i32b a0_13
  have b_a0_14 := i32b a0_14
  have b_a0_15 := i32b a0_15
  have b_a0_16 := i32b a0_16
  refine lv_iconst (v := 0) hx hb dX9_takesOf_0 (by decide) ?_
  refine lv_istore_n (lv' := [(2, .int 0), (0, .ref a0), (1, .int a1)]) hx hb dX9_takesOf_1 rfl hl (by decide) rfl (fun ls hl => ?_)
  have qc0 : (0 : Int32).toInt = 0 := by decide
  refine wloop (fun n H locs ls => ∃ (l2_2 : Int32) (f2_0_7 : Int32) (f2_0_8 : Int32) (f2_0_9 : Int32) (f2_0_10 : Int32) (f2_0_11 : Int64) (f2_0_12 : Int32) (f2_0_13 : Int32) (w2_4 : Nat → Int32), n = (2147483647 - l2_2.toInt).toNat ∧ ((0 ≤ f2_0_7.toInt ∧ f2_0_7.toInt ≤ 1000)) ∧ ((0 ≤ f2_0_8.toInt ∧ f2_0_8.toInt ≤ 1000)) ∧ (0 ≤ l2_2.toInt) ∧ lv_has ls 4 [(2, .int l2_2), (0, .ref a0), (1, .int a1)] ∧ va_P (dC, dI) vwCl [(a0, .inr (8, [.int a0_0, .int a0_1, .int a0_2, .int a0_3, .ref a0_4, .int a0_5, .int a0_6, .int f2_0_7, .int f2_0_8, .int f2_0_9, .int f2_0_10, .long f2_0_11, .int f2_0_12, .int f2_0_13, .int a0_14, .int a0_15, .int a0_16, .int a0_17, .ref a0_18, .ref a0_19, .ref a0_20, .ref a0_21, .ref a0_22, .ref a0_23, .ref a0_24, .ref a0_25, .ref a0_26, .ref a0_27, .ref a0_28, .ref a0_29, .ref a0_30, .ref a0_31, .ref a0_32, .ref a0_33, .ref a0_34, .ref a0_35, .long a0_36, .int a0_37, .ref a0_38, .ref a0_39, .int a0_40, .ref a0_41, .ref a0_42, .ref a0_43])), (a0_4, .inl (a0_4_c, 1000, .inl a0_4_f)), (a0_18, .inl (a0_18_c, 2, .inl a0_18_f)), (a0_22, .inl (a0_22_c, 16, .inr (.inl a0_22_f))), (a0_30, .inl (a0_30_c, 48, .inl w2_4))] H ∧ va_D A [(a0, .inr (8, [.int a0_0, .int a0_1, .int a0_2, .int a0_3, .ref a0_4, .int a0_5, .int a0_6, .int f2_0_7, .int f2_0_8, .int f2_0_9, .int f2_0_10, .long f2_0_11, .int f2_0_12, .int f2_0_13, .int a0_14, .int a0_15, .int a0_16, .int a0_17, .ref a0_18, .ref a0_19, .ref a0_20, .ref a0_21, .ref a0_22, .ref a0_23, .ref a0_24, .ref a0_25, .ref a0_26, .ref a0_27, .ref a0_28, .ref a0_29, .ref a0_30, .ref a0_31, .ref a0_32, .ref a0_33, .ref a0_34, .ref a0_35, .long a0_36, .int a0_37, .ref a0_38, .ref a0_39, .int a0_40, .ref a0_41, .ref a0_42, .ref a0_43])), (a0_4, .inl (a0_4_c, 1000, .inl a0_4_f)), (a0_18, .inl (a0_18_c, 2, .inl a0_18_f)), (a0_22, .inl (a0_22_c, 16, .inr (.inl a0_22_f))), (a0_30, .inl (a0_30_c, 48, .inl w2_4))] ∧ va_S A s.heap H locs) ?_ ((2147483647 - (0 : Int32).toInt).toNat) _ _ _ ⟨0, a0_7, a0_8, a0_9, a0_10, a0_11, a0_12, a0_13, a0_30_f, rfl, (by omega), (by omega), (by omega), lv_sub hl [0, 1, 2] rfl, hP, hD, hS⟩
  intro n2 H locs ls hI ih2
  obtain ⟨l2_2, f2_0_7, f2_0_8, f2_0_9, f2_0_10, f2_0_11, f2_0_12, f2_0_13, w2_4, hn2, g_f2_0_7, g_f2_0_8, g_l2_2, hl, hP, hD, hS⟩ := hI
  have b_l2_2 := i32b l2_2
  have b_f2_0_7 := i32b f2_0_7
  have b_f2_0_8 := i32b f2_0_8
  have b_f2_0_9 := i32b f2_0_9
  have b_f2_0_10 := i32b f2_0_10
  have b_f2_0_12 := i32b f2_0_12
  have b_f2_0_13 := i32b f2_0_13
  refine lv_aload_n hx hb dX9_takesOf_2 rfl (lv_at hl 1 rfl) ?_
  refine va_ldcS hx hb hown (show vk_R RX9 221 "of" (g.2.2.2.2.2.1 6) s from hE.2.2.2.2.2.2.2.2.2.2.2.2.2.2.2.2 6 (by decide)) dX9_takesOf_3 ?_
  have hPc := (rgP5_89a3f62 hP)
  have hKc := (rgK4_6738937 hK)
  refine vp_callSi ((va_runV (As := [.ref (g.2.2.2.2.2.1 6)]) (rest := []) ⟨hx, hb, hml, hown, hts⟩ (k_X9_is l dC dI g (a0) (6) (a0_0) (a0_1) (a0_2) (a0_3) (a0_4) (a0_5) (a0_6) (f2_0_7) (f2_0_8) (f2_0_9) (f2_0_10) (f2_0_11) (f2_0_12) (f2_0_13) (a0_14) (a0_15) (a0_16) (a0_17) (a0_18) (a0_19) (a0_20) (a0_21) (a0_22) (a0_23) (a0_24) (a0_25) (a0_26) (a0_27) (a0_28) (a0_29) (a0_30) (a0_31) (a0_32) (a0_33) (a0_34) (a0_35) (a0_36) (a0_37) (a0_38) (a0_39) (a0_40) (a0_41) (a0_42) (a0_43) (by omega) (by omega) (by omega) (by omega) (by omega) (by omega) (by omega) (by first | assumption | decide)) (cwV 1 hts (gwV qw_427 qw_428 qw_429 qw_386 qw_426) rfl rfl rfl (by decide +kernel) ⟨Nat.le_of_ble_eq_true rfl, Nat.le_of_ble_eq_true rfl⟩) ⟨fun a U g9 mk q => ⟨q.1, q.2.1, va_K.moved (u := U) (U := U.calling g9 mk a) (Vm.Alike.refl U.vm) q.2.2.1, Ev.bl q.2.2.2⟩, va_recv hK hP (ci := 8) (q0 := 0) rfl rgL5_a6879b9, fun U hU hW => ⟨rfl, atB hU hPc, va_K.moved hW.alike hKc, hE.go hS (fun _ h => h.elim) hU hW⟩⟩ rfl rfl hl.1 rfl (lv_room (Nat.le_of_ble_eq_true rfl)) dX9_takesOf_5 ⟨Nat.le_of_ble_eq_true rfl, Nat.le_of_ble_eq_true rfl⟩)).run (fun r1 h_r1 => ?_)
  have h_r1 : (r1 = 0 ∨ r1 = 1) := h_r1
  have b_r1 := z01 (show r1 = 0 ∨ r1 = 1 from h_r1)
  refine lv_if_eq (tgt := 125) hx hb dX9_takesOf_8 (by decide) (fun c8_2 => ?_) (fun c8_2 => ?_)
  · have c8_2 : r1.toInt = 0 := (cv_eq rfl (by decide)).mp c8_2
    refine lv_iconst (v := 1) hx hb dX9_takesOf_125 (by decide) ?_
    have qc1 : (1 : Int32).toInt = 1 := by decide
    refine W.widen (k := 0) (n := 0) (Nat.le_of_ble_eq_true rfl) (Nat.le_of_ble_eq_true rfl) ?_
    have hP9 := hP
    have hD9 := hD
    have hK9 := (rgK4_6738937 hK)
    have hf9_0 : (0 ≤ f2_0_7.toInt ∧ f2_0_7.toInt ≤ 1000) := by omega
    have hf9_1 : (0 ≤ f2_0_8.toInt ∧ f2_0_8.toInt ≤ 1000) := by omega
    have hf9_2 : ((1 : Int32) = 0 ∨ (1 : Int32) = 1) := (by decide)
    exact W.zret (v := 1) hx hb hr rfl (fun t ht hW => ⟨⟨1, 1, rfl, rfl, f2_0_7, f2_0_8, f2_0_9, f2_0_10, f2_0_11, f2_0_12, f2_0_13, w2_4, hf9_0, hf9_1, hf9_2, atB ht hP9, va_K.moved hW.alike hK9, hD9⟩, hS.F ht⟩) hS.2.2 dX9_takesOf_126
  · have c8_2 : ¬ (r1.toInt = 0) := mt (cv_eq rfl (by decide)).mpr c8_2
    refine lv_aload_n hx hb dX9_takesOf_11 rfl (lv_at hl 1 rfl) ?_
    refine lv_iload_n hx hb dX9_takesOf_12 rfl (lv_at hl 0 rfl) ?_
    refine lv_iconst (v := 4) hx hb dX9_takesOf_13 (by decide) ?_
    refine lv_icmp_ge (tgt := 21) hx hb dX9_takesOf_14 (by decide) (fun c14_3 => ?_) (fun c14_3 => ?_)
    · have c14_3 : 4 ≤ l2_2.toInt := (cv_le (by decide) rfl).mp c14_3
      refine lv_iconst (v := 0) hx hb dX9_takesOf_21 (by decide) ?_
      refine lv_iconst (v := 5) hx hb dX9_takesOf_22 (by decide) ?_
      have qc0 : (0 : Int32).toInt = 0 := by decide
      have qc5 : (5 : Int32).toInt = 5 := by decide
      have hPc := (rgP5_89a3f62 hP)
      have hKc := (rgK4_6738937 hK)
      have hDc := (rgD5_0e893dd hD)
      have hFc := freeW hDc hS hA
      refine va_calli (va_runV (As := [.int 0, .int 5]) (rest := []) ⟨hx, hb, hml, hown, hts⟩ (k_X9_must l dC dI g H.size (a0) (0) (5) (a0_0) (a0_1) (a0_2) (a0_3) (a0_4) (a0_5) (a0_6) (f2_0_7) (f2_0_8) (f2_0_9) (f2_0_10) (f2_0_11) (f2_0_12) (f2_0_13) (a0_14) (a0_15) (a0_16) (a0_17) (a0_18) (a0_19) (a0_20) (a0_21) (a0_22) (a0_23) (a0_24) (a0_25) (a0_26) (a0_27) (a0_28) (a0_29) (a0_30) (a0_31) (a0_32) (a0_33) (a0_34) (a0_35) (a0_36) (a0_37) (a0_38) (a0_39) (a0_40) (a0_41) (a0_42) (a0_43) (by omega) (by omega) (by omega) (by omega) (by omega) (by omega) (by omega) (by omega)) (cwV 2 hts (gwV qw_472 qw_473 qw_474 qw_386 qw_471) rfl rfl rfl (by decide +kernel) ⟨Nat.le_of_ble_eq_true rfl, Nat.le_of_ble_eq_true rfl⟩) ⟨fun a U g9 mk q => ⟨q.1, q.2.1, q.2.2.1, va_K.moved (u := U) (U := U.calling g9 mk a) (Vm.Alike.refl U.vm) q.2.2.2.1, q.2.2.2.2.1, Ev.bl q.2.2.2.2.2⟩, va_recv hK hP (ci := 8) (q0 := 0) rfl rgL5_a6879b9, fun U hU hW => ⟨rfl, by rw [hU], atB hU hPc, va_K.moved hW.alike hKc, hDc.weaken (fun _ _ _ _ => trivial), hE.go hS hFc hU hW⟩⟩ rfl rfl hl.1 rfl (lv_room (Nat.le_of_ble_eq_true rfl)) dX9_takesOf_23 ⟨Nat.le_of_ble_eq_true rfl, Nat.le_of_ble_eq_true rfl⟩) hS (fun q _ h => hFc q h) hFc (fun r5 u4 t H1 locs ht hvm h_u4 hB hz1 hk1 hS => ?_)
      obtain ⟨za0_12_6, za0_13_7, hF8, hF9, hP1, hK1, hD1⟩ := hB
      have hK1 := va_K.moved hvm.symm hK1
      have hJ9 := rgJ5_178c2bf hP hD hk1 hFc (atH ht hP1) hD1
      clear hP hD hPc hKc hDc hFc hP1 hD1 hk1 hz1
      obtain ⟨hP, hD⟩ := hJ9
      clear hK1
      generalize H1 = H at hP hS ⊢
      refine W.widen (k := 0) (n := 0) (Nat.le_of_ble_eq_true rfl) (Nat.le_of_ble_eq_true rfl) ?_
      have h_r5 := congrArg Int32.toInt h_u4
      have hz_r5 : r5 = 0 ∨ r5 = 1 := h_u4 ▸ hF8
      have b_r5 := z01 hz_r5
      refine cst (v := 0) (Int32.toInt_inj.mp (by rw [show (0 : Int32).toInt = 0 by decide]; omega)) ?_
      refine lv_if_ne (tgt := 31) hx hb dX9_takesOf_26 (by decide) (fun c26_10 => by exfalso; exact absurd c26_10 (by decide)) (fun c26_10 => ?_)
      refine lv_iconst (v := 0) hx hb dX9_takesOf_29 (by decide) ?_
      have qc0 : (0 : Int32).toInt = 0 := by decide
      refine W.widen (k := 0) (n := 0) (Nat.le_of_ble_eq_true rfl) (Nat.le_of_ble_eq_true rfl) ?_
      have hP9 := hP
      have hD9 := hD
      have hK9 := (rgK4_6738937 hK)
      have hf9_0 : (0 ≤ f2_0_7.toInt ∧ f2_0_7.toInt ≤ 1000) := by omega
      have hf9_1 : (0 ≤ f2_0_8.toInt ∧ f2_0_8.toInt ≤ 1000) := by omega
      have hf9_2 : ((0 : Int32) = 0 ∨ (0 : Int32) = 1) := (by decide)
      exact W.zret (v := 0) hx hb hr rfl (fun t ht hW => ⟨⟨0, 0, rfl, rfl, f2_0_7, f2_0_8, f2_0_9, f2_0_10, f2_0_11, za0_12_6, za0_13_7, w2_4, hf9_0, hf9_1, hf9_2, atB ht hP9, va_K.moved hW.alike hK9, hD9⟩, hS.F ht⟩) hS.2.2 dX9_takesOf_30
    · have c14_3 : ¬ (4 ≤ l2_2.toInt) := mt (cv_le (by decide) rfl).mpr c14_3
      refine lv_iconst (v := 1) hx hb dX9_takesOf_17 (by decide) ?_
      refine lv_goto (tgt := 22) hx hb dX9_takesOf_18 (by decide) ?_
      refine lv_iconst (v := 5) hx hb dX9_takesOf_22 (by decide) ?_
      have qc1 : (1 : Int32).toInt = 1 := by decide
      have qc5 : (5 : Int32).toInt = 5 := by decide
      have hPc := (rgP5_89a3f62 hP)
      have hKc := (rgK4_6738937 hK)
      have hDc := (rgD5_0e893dd hD)
      have hFc := freeW hDc hS hA
      refine va_calli (va_runV (As := [.int 1, .int 5]) (rest := []) ⟨hx, hb, hml, hown, hts⟩ (k_X9_must l dC dI g H.size (a0) (1) (5) (a0_0) (a0_1) (a0_2) (a0_3) (a0_4) (a0_5) (a0_6) (f2_0_7) (f2_0_8) (f2_0_9) (f2_0_10) (f2_0_11) (f2_0_12) (f2_0_13) (a0_14) (a0_15) (a0_16) (a0_17) (a0_18) (a0_19) (a0_20) (a0_21) (a0_22) (a0_23) (a0_24) (a0_25) (a0_26) (a0_27) (a0_28) (a0_29) (a0_30) (a0_31) (a0_32) (a0_33) (a0_34) (a0_35) (a0_36) (a0_37) (a0_38) (a0_39) (a0_40) (a0_41) (a0_42) (a0_43) (by omega) (by omega) (by omega) (by omega) (by omega) (by omega) (by omega) (by omega)) (cwV 2 hts (gwV qw_472 qw_473 qw_474 qw_386 qw_471) rfl rfl rfl (by decide +kernel) ⟨Nat.le_of_ble_eq_true rfl, Nat.le_of_ble_eq_true rfl⟩) ⟨fun a U g9 mk q => ⟨q.1, q.2.1, q.2.2.1, va_K.moved (u := U) (U := U.calling g9 mk a) (Vm.Alike.refl U.vm) q.2.2.2.1, q.2.2.2.2.1, Ev.bl q.2.2.2.2.2⟩, va_recv hK hP (ci := 8) (q0 := 0) rfl rgL5_a6879b9, fun U hU hW => ⟨rfl, by rw [hU], atB hU hPc, va_K.moved hW.alike hKc, hDc.weaken (fun _ _ _ _ => trivial), hE.go hS hFc hU hW⟩⟩ rfl rfl hl.1 rfl (lv_room (Nat.le_of_ble_eq_true rfl)) dX9_takesOf_23 ⟨Nat.le_of_ble_eq_true rfl, Nat.le_of_ble_eq_true rfl⟩) hS (fun q _ h => hFc q h) hFc (fun r12 u11 t H1 locs ht hvm h_u11 hB hz1 hk1 hS => ?_)
      obtain ⟨za0_12_13, za0_13_14, hF15, hF16, hP1, hK1, hD1⟩ := hB
      have hK1 := va_K.moved hvm.symm hK1
      have hJ9 := rgJ5_178c2bf hP hD hk1 hFc (atH ht hP1) hD1
      clear hP hD hPc hKc hDc hFc hP1 hD1 hk1 hz1
      obtain ⟨hP, hD⟩ := hJ9
      clear hK1
      generalize H1 = H at hP hS ⊢
      refine W.widen (k := 0) (n := 0) (Nat.le_of_ble_eq_true rfl) (Nat.le_of_ble_eq_true rfl) ?_
      have h_r12 := congrArg Int32.toInt h_u11
      have hz_r12 : r12 = 0 ∨ r12 = 1 := h_u11 ▸ hF15
      have b_r12 := z01 hz_r12
      refine lv_if_ne (tgt := 31) hx hb dX9_takesOf_26 (by decide) (fun c26_17 => ?_) (fun c26_17 => ?_)
      · have c26_17 : ¬ (r12.toInt = 0) := mt (cv_eq rfl (by decide)).mpr c26_17
        refine lv_aload_n hx hb dX9_takesOf_31 rfl (lv_at hl 1 rfl) ?_
        have hPc := (rgP5_1120ef2 hP)
        have hKc := (rgK4_63375da hK)
        have hDc := (rgD5_721afdf hD)
        have hFc := freeW hDc hS hA
        refine va_callv (va_runV (As := []) (rest := []) ⟨hx, hb, hml, hown, hts⟩ (k_X9_steps l dC dI g H.size (a0) (a0_0) (a0_1) (a0_2) (a0_3) (a0_4) (a0_5) (a0_6) (f2_0_7) (f2_0_8) (f2_0_9) (f2_0_10) (f2_0_11) (za0_12_13) (za0_13_14) (a0_14) (a0_15) (a0_16) (a0_17) (a0_18) (a0_19) (a0_20) (a0_21) (a0_22) (a0_23) (a0_24) (a0_25) (a0_26) (a0_27) (a0_28) (a0_29) (a0_30) (a0_31) (a0_32) (a0_33) (a0_34) (a0_35) (a0_36) (a0_37) (a0_38) (a0_39) (a0_40) (a0_41) (a0_42) (a0_43) (a0_4_c) (a0_4_f) (by omega) (by omega) (by omega) (by omega) (by omega) (by omega) (by omega)) (cwV 0 hts (gwV qw_468 qw_469 qw_470 qw_386 qw_467) rfl rfl rfl (by decide +kernel) ⟨Nat.le_of_ble_eq_true rfl, Nat.le_of_ble_eq_true rfl⟩) ⟨fun a U g9 mk q => ⟨q.1, q.2.1, q.2.2.1, va_K.moved (u := U) (U := U.calling g9 mk a) (Vm.Alike.refl U.vm) q.2.2.2.1, q.2.2.2.2.1, Ev.bl q.2.2.2.2.2⟩, va_recv hK hP (ci := 8) (q0 := 0) rfl rgL5_a6879b9, fun U hU hW => ⟨rfl, by rw [hU], atB hU hPc, va_K.moved hW.alike hKc, hDc.weaken (fun _ _ _ _ => trivial), hE.go hS hFc hU hW⟩⟩ rfl rfl hl.1 rfl (lv_room (Nat.le_of_ble_eq_true rfl)) dX9_takesOf_32 ⟨Nat.le_of_ble_eq_true rfl, Nat.le_of_ble_eq_true rfl⟩) hS (fun q _ h => hFc q h) hFc (fun u18 t H1 locs ht hvm h_u18 hB hz1 hk1 hS => ?_)
        obtain ⟨za0_7_20, za0_8_21, za0_9_22, za0_10_23, za0_11_24, hF25, hF26, hP1, hK1, hD1⟩ := hB
        have hK1 := va_K.moved hvm.symm hK1
        have hJ9 := rgJ5_833ae3d hP hD hk1 hFc (atH ht hP1) hD1
        clear hP hD hPc hKc hDc hFc hP1 hD1 hk1 hz1
        obtain ⟨hP, hD⟩ := hJ9
        clear hK1
        generalize H1 = H at hP hS ⊢
        refine W.widen (k := 0) (n := 0) (Nat.le_of_ble_eq_true rfl) (Nat.le_of_ble_eq_true rfl) ?_
        refine lv_aload_n hx hb dX9_takesOf_35 rfl (lv_at hl 1 rfl) ?_
        refine lv_aload_n hx hb dX9_takesOf_36 rfl (lv_at hl 1 rfl) ?_
        have hPc := (rgP5_89a3f62 hP)
        have hKc := (rgK4_6738937 hK)
        refine vp_callSi ((va_runV (As := []) (rest := [.ref a0]) ⟨hx, hb, hml, hown, hts⟩ (k_X9_isName l dC dI g (a0) (a0_0) (a0_1) (a0_2) (a0_3) (a0_4) (a0_5) (a0_6) (za0_7_20) (za0_8_21) (za0_9_22) (za0_10_23) (za0_11_24) (za0_12_13) (za0_13_14) (a0_14) (a0_15) (a0_16) (a0_17) (a0_18) (a0_19) (a0_20) (a0_21) (a0_22) (a0_23) (a0_24) (a0_25) (a0_26) (a0_27) (a0_28) (a0_29) (a0_30) (a0_31) (a0_32) (a0_33) (a0_34) (a0_35) (a0_36) (a0_37) (a0_38) (a0_39) (a0_40) (a0_41) (a0_42) (a0_43) (by omega) (by omega) (by omega) (by omega) (by omega) (by omega) (by omega)) (cwV 0 hts (gwV qw_483 qw_484 qw_485 qw_386 qw_482) rfl rfl rfl (by decide +kernel) ⟨Nat.le_of_ble_eq_true rfl, Nat.le_of_ble_eq_true rfl⟩) ⟨fun a U g9 mk q => ⟨q.1, q.2.1, va_K.moved (u := U) (U := U.calling g9 mk a) (Vm.Alike.refl U.vm) q.2.2.1, Ev.bl q.2.2.2⟩, va_recv hK hP (ci := 8) (q0 := 0) rfl rgL5_a6879b9, fun U hU hW => ⟨rfl, atB hU hPc, va_K.moved hW.alike hKc, hE.go hS (fun _ h => h.elim) hU hW⟩⟩ rfl rfl hl.1 rfl (lv_room (Nat.le_of_ble_eq_true rfl)) dX9_takesOf_37 ⟨Nat.le_of_ble_eq_true rfl, Nat.le_of_ble_eq_true rfl⟩)).run (fun r27 h_r27 => ?_)
        have h_r27 : (r27 = 0 ∨ r27 = 1) := h_r27
        have b_r27 := z01 (show r27 = 0 ∨ r27 = 1 from h_r27)
        refine lv_iconst (v := 1) hx hb dX9_takesOf_40 (by decide) ?_
        have qc1 : (1 : Int32).toInt = 1 := by decide
        have hPc := (rgP5_89a3f62 hP)
        have hKc := (rgK4_6738937 hK)
        have hDc := (rgD5_0e893dd hD)
        have hFc := freeW hDc hS hA
        refine va_calli (va_runV (As := [.int r27, .int 1]) (rest := []) ⟨hx, hb, hml, hown, hts⟩ (k_X9_must l dC dI g H.size (a0) (r27) (1) (a0_0) (a0_1) (a0_2) (a0_3) (a0_4) (a0_5) (a0_6) (za0_7_20) (za0_8_21) (za0_9_22) (za0_10_23) (za0_11_24) (za0_12_13) (za0_13_14) (a0_14) (a0_15) (a0_16) (a0_17) (a0_18) (a0_19) (a0_20) (a0_21) (a0_22) (a0_23) (a0_24) (a0_25) (a0_26) (a0_27) (a0_28) (a0_29) (a0_30) (a0_31) (a0_32) (a0_33) (a0_34) (a0_35) (a0_36) (a0_37) (a0_38) (a0_39) (a0_40) (a0_41) (a0_42) (a0_43) (by omega) (by omega) (by omega) (by omega) (by omega) (by omega) (by omega) (by omega)) (cwV 2 hts (gwV qw_472 qw_473 qw_474 qw_386 qw_471) rfl rfl rfl (by decide +kernel) ⟨Nat.le_of_ble_eq_true rfl, Nat.le_of_ble_eq_true rfl⟩) ⟨fun a U g9 mk q => ⟨q.1, q.2.1, q.2.2.1, va_K.moved (u := U) (U := U.calling g9 mk a) (Vm.Alike.refl U.vm) q.2.2.2.1, q.2.2.2.2.1, Ev.bl q.2.2.2.2.2⟩, va_recv hK hP (ci := 8) (q0 := 0) rfl rgL5_a6879b9, fun U hU hW => ⟨rfl, by rw [hU], atB hU hPc, va_K.moved hW.alike hKc, hDc.weaken (fun _ _ _ _ => trivial), hE.go hS hFc hU hW⟩⟩ rfl rfl hl.1 rfl (lv_room (Nat.le_of_ble_eq_true rfl)) dX9_takesOf_41 ⟨Nat.le_of_ble_eq_true rfl, Nat.le_of_ble_eq_true rfl⟩) hS (fun q _ h => hFc q h) hFc (fun r29 u28 t H1 locs ht hvm h_u28 hB hz1 hk1 hS => ?_)
        obtain ⟨za0_12_30, za0_13_31, hF32, hF33, hP1, hK1, hD1⟩ := hB
        have hK1 := va_K.moved hvm.symm hK1
        have hJ9 := rgJ5_178c2bf hP hD hk1 hFc (atH ht hP1) hD1
        clear hP hD hPc hKc hDc hFc hP1 hD1 hk1 hz1
        obtain ⟨hP, hD⟩ := hJ9
        clear hK1
        generalize H1 = H at hP hS ⊢
        refine W.widen (k := 0) (n := 0) (Nat.le_of_ble_eq_true rfl) (Nat.le_of_ble_eq_true rfl) ?_
        have h_r29 := congrArg Int32.toInt h_u28
        have hz_r29 : r29 = 0 ∨ r29 = 1 := h_u28 ▸ hF32
        have b_r29 := z01 hz_r29
        refine lv_if_ne (tgt := 49) hx hb dX9_takesOf_44 (by decide) (fun c44_34 => ?_) (fun c44_34 => ?_)
        · have c44_34 : ¬ (r29.toInt = 0) := mt (cv_eq rfl (by decide)).mpr c44_34
          refine lv_aload_n hx hb dX9_takesOf_49 rfl (lv_at hl 1 rfl) ?_
          have hPc := (rgP5_9ac2766 hP)
          have hKc := (rgK4_5a6b506 hK)
          refine vp_callSi ((va_runV (As := []) (rest := []) ⟨hx, hb, hml, hown, hts⟩ (k_X9_personNamed l dC dI g (a0) (a0_0) (a0_1) (a0_2) (a0_3) (a0_4) (a0_5) (a0_6) (za0_7_20) (za0_8_21) (za0_9_22) (za0_10_23) (za0_11_24) (za0_12_30) (za0_13_31) (a0_14) (a0_15) (a0_16) (a0_17) (a0_18) (a0_19) (a0_20) (a0_21) (a0_22) (a0_23) (a0_24) (a0_25) (a0_26) (a0_27) (a0_28) (a0_29) (a0_30) (a0_31) (a0_32) (a0_33) (a0_34) (a0_35) (a0_36) (a0_37) (a0_38) (a0_39) (a0_40) (a0_41) (a0_42) (a0_43) (a0_18_c) (a0_18_f) (a0_22_c) (a0_22_f) (by omega) (by omega) (by omega) (by omega) (by omega) (by omega) (by omega) h_a0_18_f) (cwV 0 hts (gwV qw_487 qw_488 qw_489 qw_386 qw_486) rfl rfl rfl (by decide +kernel) ⟨Nat.le_of_ble_eq_true rfl, Nat.le_of_ble_eq_true rfl⟩) ⟨fun a U g9 mk q => ⟨q.1, q.2.1, va_K.moved (u := U) (U := U.calling g9 mk a) (Vm.Alike.refl U.vm) q.2.2.1, Ev.bl q.2.2.2⟩, va_recv hK hP (ci := 8) (q0 := 0) rfl rgL5_a6879b9, fun U hU hW => ⟨rfl, atB hU hPc, va_K.moved hW.alike hKc, hE.go hS (fun _ h => h.elim) hU hW⟩⟩ rfl rfl hl.1 rfl (lv_room (Nat.le_of_ble_eq_true rfl)) dX9_takesOf_50 ⟨Nat.le_of_ble_eq_true rfl, Nat.le_of_ble_eq_true rfl⟩)).run (fun r35 h_r35 => ?_)
          have h_r35 : (-1 ≤ r35.toInt ∧ r35.toInt < (a0_18_f a0_17.toNatClampNeg).toInt) := h_r35
          have b_r35 := i32b r35
          refine lv_istore_n (lv' := [(3, .int r35), (2, .int l2_2), (0, .ref a0), (1, .int a1)]) hx hb dX9_takesOf_53 rfl hl (by decide) rfl (fun ls hl => ?_)
          refine lv_aload_n hx hb dX9_takesOf_54 rfl (lv_at hl 2 rfl) ?_
          refine lv_iload_n hx hb dX9_takesOf_55 rfl (lv_at hl 0 rfl) ?_
          refine lv_if_lt (tgt := 72) hx hb dX9_takesOf_56 (by decide) (fun c56_36 => ?_) (fun c56_36 => ?_)
          · have c56_36 : r35.toInt < 0 := (cv_lt rfl (by decide)).mp c56_36
            refine lv_iconst (v := 1) hx hb dX9_takesOf_72 (by decide) ?_
            refine lv_goto (tgt := 77) hx hb dX9_takesOf_73 (by decide) ?_
            refine lv_iconst (v := 2) hx hb dX9_takesOf_77 (by decide) ?_
            have qc1 : (1 : Int32).toInt = 1 := by decide
            have qc2 : (2 : Int32).toInt = 2 := by decide
            have hPc := (rgP5_89a3f62 hP)
            have hKc := (rgK4_6738937 hK)
            have hDc := (rgD5_0e893dd hD)
            have hFc := freeW hDc hS hA
            refine va_calli (va_runV (As := [.int 1, .int 2]) (rest := []) ⟨hx, hb, hml, hown, hts⟩ (k_X9_must l dC dI g H.size (a0) (1) (2) (a0_0) (a0_1) (a0_2) (a0_3) (a0_4) (a0_5) (a0_6) (za0_7_20) (za0_8_21) (za0_9_22) (za0_10_23) (za0_11_24) (za0_12_30) (za0_13_31) (a0_14) (a0_15) (a0_16) (a0_17) (a0_18) (a0_19) (a0_20) (a0_21) (a0_22) (a0_23) (a0_24) (a0_25) (a0_26) (a0_27) (a0_28) (a0_29) (a0_30) (a0_31) (a0_32) (a0_33) (a0_34) (a0_35) (a0_36) (a0_37) (a0_38) (a0_39) (a0_40) (a0_41) (a0_42) (a0_43) (by omega) (by omega) (by omega) (by omega) (by omega) (by omega) (by omega) (by omega)) (cwV 2 hts (gwV qw_472 qw_473 qw_474 qw_386 qw_471) rfl rfl rfl (by decide +kernel) ⟨Nat.le_of_ble_eq_true rfl, Nat.le_of_ble_eq_true rfl⟩) ⟨fun a U g9 mk q => ⟨q.1, q.2.1, q.2.2.1, va_K.moved (u := U) (U := U.calling g9 mk a) (Vm.Alike.refl U.vm) q.2.2.2.1, q.2.2.2.2.1, Ev.bl q.2.2.2.2.2⟩, va_recv hK hP (ci := 8) (q0 := 0) rfl rgL5_a6879b9, fun U hU hW => ⟨rfl, by rw [hU], atB hU hPc, va_K.moved hW.alike hKc, hDc.weaken (fun _ _ _ _ => trivial), hE.go hS hFc hU hW⟩⟩ rfl rfl hl.1 rfl (lv_room (Nat.le_of_ble_eq_true rfl)) dX9_takesOf_78 ⟨Nat.le_of_ble_eq_true rfl, Nat.le_of_ble_eq_true rfl⟩) hS (fun q _ h => hFc q h) hFc (fun r38 u37 t H1 locs ht hvm h_u37 hB hz1 hk1 hS => ?_)
            obtain ⟨za0_12_39, za0_13_40, hF41, hF42, hP1, hK1, hD1⟩ := hB
            have hK1 := va_K.moved hvm.symm hK1
            have hJ9 := rgJ5_178c2bf hP hD hk1 hFc (atH ht hP1) hD1
            clear hP hD hPc hKc hDc hFc hP1 hD1 hk1 hz1
            obtain ⟨hP, hD⟩ := hJ9
            clear hK1
            generalize H1 = H at hP hS ⊢
            refine W.widen (k := 0) (n := 0) (Nat.le_of_ble_eq_true rfl) (Nat.le_of_ble_eq_true rfl) ?_
            have h_r38 := congrArg Int32.toInt h_u37
            have hz_r38 : r38 = 0 ∨ r38 = 1 := h_u37 ▸ hF41
            have b_r38 := z01 hz_r38
            refine lv_if_eq (tgt := 101) hx hb dX9_takesOf_81 (by decide) (fun c81_43 => ?_) (fun c81_43 => ?_)
            · have c81_43 : r38.toInt = 0 := (cv_eq rfl (by decide)).mp c81_43
              refine lv_iconst (v := 0) hx hb dX9_takesOf_101 (by decide) ?_
              have qc0 : (0 : Int32).toInt = 0 := by decide
              refine W.widen (k := 0) (n := 0) (Nat.le_of_ble_eq_true rfl) (Nat.le_of_ble_eq_true rfl) ?_
              have hP9 := hP
              have hD9 := hD
              have hK9 := (rgK4_6738937 hK)
              have hf9_0 : (0 ≤ za0_7_20.toInt ∧ za0_7_20.toInt ≤ 1000) := by omega
              have hf9_1 : (0 ≤ za0_8_21.toInt ∧ za0_8_21.toInt ≤ 1000) := by omega
              have hf9_2 : ((0 : Int32) = 0 ∨ (0 : Int32) = 1) := (by decide)
              exact W.zret (v := 0) hx hb hr rfl (fun t ht hW => ⟨⟨0, 0, rfl, rfl, za0_7_20, za0_8_21, za0_9_22, za0_10_23, za0_11_24, za0_12_39, za0_13_40, w2_4, hf9_0, hf9_1, hf9_2, atB ht hP9, va_K.moved hW.alike hK9, hD9⟩, hS.F ht⟩) hS.2.2 dX9_takesOf_102
            · have c81_43 : ¬ (r38.toInt = 0) := mt (cv_eq rfl (by decide)).mpr c81_43
              refine lv_aload_n hx hb dX9_takesOf_84 rfl (lv_at hl 2 rfl) ?_
              refine lv_iload_n hx hb dX9_takesOf_85 rfl (lv_at hl 0 rfl) ?_
              refine lv_if_lt (tgt := 93) hx hb dX9_takesOf_86 (by decide) (fun c86_44 => ?_) (fun c86_44 => ?_)
              · have c86_44 : r35.toInt < 0 := (cv_lt rfl (by decide)).mp c86_44
                refine lv_iconst (v := 0) hx hb dX9_takesOf_93 (by decide) ?_
                refine lv_iconst (v := 3) hx hb dX9_takesOf_94 (by decide) ?_
                have qc0 : (0 : Int32).toInt = 0 := by decide
                have qc3 : (3 : Int32).toInt = 3 := by decide
                have hPc := (rgP5_89a3f62 hP)
                have hKc := (rgK4_6738937 hK)
                have hDc := (rgD5_0e893dd hD)
                have hFc := freeW hDc hS hA
                refine va_calli (va_runV (As := [.int 0, .int 3]) (rest := []) ⟨hx, hb, hml, hown, hts⟩ (k_X9_must l dC dI g H.size (a0) (0) (3) (a0_0) (a0_1) (a0_2) (a0_3) (a0_4) (a0_5) (a0_6) (za0_7_20) (za0_8_21) (za0_9_22) (za0_10_23) (za0_11_24) (za0_12_39) (za0_13_40) (a0_14) (a0_15) (a0_16) (a0_17) (a0_18) (a0_19) (a0_20) (a0_21) (a0_22) (a0_23) (a0_24) (a0_25) (a0_26) (a0_27) (a0_28) (a0_29) (a0_30) (a0_31) (a0_32) (a0_33) (a0_34) (a0_35) (a0_36) (a0_37) (a0_38) (a0_39) (a0_40) (a0_41) (a0_42) (a0_43) (by omega) (by omega) (by omega) (by omega) (by omega) (by omega) (by omega) (by omega)) (cwV 2 hts (gwV qw_472 qw_473 qw_474 qw_386 qw_471) rfl rfl rfl (by decide +kernel) ⟨Nat.le_of_ble_eq_true rfl, Nat.le_of_ble_eq_true rfl⟩) ⟨fun a U g9 mk q => ⟨q.1, q.2.1, q.2.2.1, va_K.moved (u := U) (U := U.calling g9 mk a) (Vm.Alike.refl U.vm) q.2.2.2.1, q.2.2.2.2.1, Ev.bl q.2.2.2.2.2⟩, va_recv hK hP (ci := 8) (q0 := 0) rfl rgL5_a6879b9, fun U hU hW => ⟨rfl, by rw [hU], atB hU hPc, va_K.moved hW.alike hKc, hDc.weaken (fun _ _ _ _ => trivial), hE.go hS hFc hU hW⟩⟩ rfl rfl hl.1 rfl (lv_room (Nat.le_of_ble_eq_true rfl)) dX9_takesOf_95 ⟨Nat.le_of_ble_eq_true rfl, Nat.le_of_ble_eq_true rfl⟩) hS (fun q _ h => hFc q h) hFc (fun r46 u45 t H1 locs ht hvm h_u45 hB hz1 hk1 hS => ?_)
                obtain ⟨za0_12_47, za0_13_48, hF49, hF50, hP1, hK1, hD1⟩ := hB
                have hK1 := va_K.moved hvm.symm hK1
                have hJ9 := rgJ5_178c2bf hP hD hk1 hFc (atH ht hP1) hD1
                clear hP hD hPc hKc hDc hFc hP1 hD1 hk1 hz1
                obtain ⟨hP, hD⟩ := hJ9
                clear hK1
                generalize H1 = H at hP hS ⊢
                refine W.widen (k := 0) (n := 0) (Nat.le_of_ble_eq_true rfl) (Nat.le_of_ble_eq_true rfl) ?_
                have h_r46 := congrArg Int32.toInt h_u45
                have hz_r46 : r46 = 0 ∨ r46 = 1 := h_u45 ▸ hF49
                have b_r46 := z01 hz_r46
                refine cst (v := 0) (Int32.toInt_inj.mp (by rw [show (0 : Int32).toInt = 0 by decide]; omega)) ?_
                refine lv_if_ne (tgt := 103) hx hb dX9_takesOf_98 (by decide) (fun c98_51 => by exfalso; exact absurd c98_51 (by decide)) (fun c98_51 => ?_)
                refine lv_iconst (v := 0) hx hb dX9_takesOf_101 (by decide) ?_
                have qc0 : (0 : Int32).toInt = 0 := by decide
                refine W.widen (k := 0) (n := 0) (Nat.le_of_ble_eq_true rfl) (Nat.le_of_ble_eq_true rfl) ?_
                have hP9 := hP
                have hD9 := hD
                have hK9 := (rgK4_6738937 hK)
                have hf9_0 : (0 ≤ za0_7_20.toInt ∧ za0_7_20.toInt ≤ 1000) := by omega
                have hf9_1 : (0 ≤ za0_8_21.toInt ∧ za0_8_21.toInt ≤ 1000) := by omega
                have hf9_2 : ((0 : Int32) = 0 ∨ (0 : Int32) = 1) := (by decide)
                exact W.zret (v := 0) hx hb hr rfl (fun t ht hW => ⟨⟨0, 0, rfl, rfl, za0_7_20, za0_8_21, za0_9_22, za0_10_23, za0_11_24, za0_12_47, za0_13_48, w2_4, hf9_0, hf9_1, hf9_2, atB ht hP9, va_K.moved hW.alike hK9, hD9⟩, hS.F ht⟩) hS.2.2 dX9_takesOf_102
              · have c86_44 : ¬ (r35.toInt < 0) := mt (cv_lt rfl (by decide)).mpr c86_44
                refine lv_iconst (v := 1) hx hb dX9_takesOf_89 (by decide) ?_
                refine lv_goto (tgt := 94) hx hb dX9_takesOf_90 (by decide) ?_
                refine lv_iconst (v := 3) hx hb dX9_takesOf_94 (by decide) ?_
                have qc1 : (1 : Int32).toInt = 1 := by decide
                have qc3 : (3 : Int32).toInt = 3 := by decide
                have hPc := (rgP5_89a3f62 hP)
                have hKc := (rgK4_6738937 hK)
                have hDc := (rgD5_0e893dd hD)
                have hFc := freeW hDc hS hA
                refine va_calli (va_runV (As := [.int 1, .int 3]) (rest := []) ⟨hx, hb, hml, hown, hts⟩ (k_X9_must l dC dI g H.size (a0) (1) (3) (a0_0) (a0_1) (a0_2) (a0_3) (a0_4) (a0_5) (a0_6) (za0_7_20) (za0_8_21) (za0_9_22) (za0_10_23) (za0_11_24) (za0_12_39) (za0_13_40) (a0_14) (a0_15) (a0_16) (a0_17) (a0_18) (a0_19) (a0_20) (a0_21) (a0_22) (a0_23) (a0_24) (a0_25) (a0_26) (a0_27) (a0_28) (a0_29) (a0_30) (a0_31) (a0_32) (a0_33) (a0_34) (a0_35) (a0_36) (a0_37) (a0_38) (a0_39) (a0_40) (a0_41) (a0_42) (a0_43) (by omega) (by omega) (by omega) (by omega) (by omega) (by omega) (by omega) (by omega)) (cwV 2 hts (gwV qw_472 qw_473 qw_474 qw_386 qw_471) rfl rfl rfl (by decide +kernel) ⟨Nat.le_of_ble_eq_true rfl, Nat.le_of_ble_eq_true rfl⟩) ⟨fun a U g9 mk q => ⟨q.1, q.2.1, q.2.2.1, va_K.moved (u := U) (U := U.calling g9 mk a) (Vm.Alike.refl U.vm) q.2.2.2.1, q.2.2.2.2.1, Ev.bl q.2.2.2.2.2⟩, va_recv hK hP (ci := 8) (q0 := 0) rfl rgL5_a6879b9, fun U hU hW => ⟨rfl, by rw [hU], atB hU hPc, va_K.moved hW.alike hKc, hDc.weaken (fun _ _ _ _ => trivial), hE.go hS hFc hU hW⟩⟩ rfl rfl hl.1 rfl (lv_room (Nat.le_of_ble_eq_true rfl)) dX9_takesOf_95 ⟨Nat.le_of_ble_eq_true rfl, Nat.le_of_ble_eq_true rfl⟩) hS (fun q _ h => hFc q h) hFc (fun r53 u52 t H1 locs ht hvm h_u52 hB hz1 hk1 hS => ?_)
                obtain ⟨za0_12_54, za0_13_55, hF56, hF57, hP1, hK1, hD1⟩ := hB
                have hK1 := va_K.moved hvm.symm hK1
                have hJ9 := rgJ5_178c2bf hP hD hk1 hFc (atH ht hP1) hD1
                clear hP hD hPc hKc hDc hFc hP1 hD1 hk1 hz1
                obtain ⟨hP, hD⟩ := hJ9
                clear hK1
                generalize H1 = H at hP hS ⊢
                refine W.widen (k := 0) (n := 0) (Nat.le_of_ble_eq_true rfl) (Nat.le_of_ble_eq_true rfl) ?_
                have h_r53 := congrArg Int32.toInt h_u52
                have hz_r53 : r53 = 0 ∨ r53 = 1 := h_u52 ▸ hF56
                have b_r53 := z01 hz_r53
                refine lv_if_ne (tgt := 103) hx hb dX9_takesOf_98 (by decide) (fun c98_58 => ?_) (fun c98_58 => ?_)
                · have c98_58 : ¬ (r53.toInt = 0) := mt (cv_eq rfl (by decide)).mpr c98_58
                  refine lv_aload_n hx hb dX9_takesOf_103 rfl (lv_at hl 2 rfl) ?_
                  refine va_get (D := (dC, dI)) (ci := 8) (v := .ref a0_30) (C := RX9) (T := TX9) (N := 44) hx hb hts inlX9 hown hK hP 0 rgL5_a6879b9 rfl 30 (by decide) (hts (.fieldLink RX9 51 "ClosedUntilModel" "ofPeople" "[I") qw_500) (fun _ h9 => h9) rfl dX9_takesOf_104 ?_
                  refine lv_iload_n hx hb dX9_takesOf_107 rfl (lv_at hl 3 rfl) ?_
                  refine lv_dup2_11 hx hb dX9_takesOf_108 rfl rfl ?_
                  refine va_iald hx hb hK hP 4 3 rgL5_c0b45fd rgT4_a0d579d (vinI (by omega) (by omega)) dX9_takesOf_109 ?_
                  refine lv_topi (fun x59 e_x59 => ?_)
                  have q_x59 := congrArg Int32.toInt e_x59
                  have b_x59 := i32b x59
                  refine lv_iconst (v := 1) hx hb dX9_takesOf_110 (by decide) ?_
                  refine lv_iload_n hx hb dX9_takesOf_111 rfl (lv_at hl 0 rfl) ?_
                  refine lv_ishl hx hb dX9_takesOf_112 ?_
                  refine lv_topi (fun x60 e_x60 => ?_)
                  refine lv_ior hx hb dX9_takesOf_113 ?_
                  refine lv_topi (fun x61 e_x61 => ?_)
                  refine va_iast hx hb hK hP hD hS 4 3 rgL5_c0b45fd rgT4_a0d579d (vinI (by omega) (by omega)) dX9_takesOf_114 (fun H locs hP9 hD9 hS9 => ?_)
                  obtain ⟨y62, e_y62⟩ : ∃ y, (upd w2_4 a1.toNatClampNeg x61) = y := ⟨_, rfl⟩
                  clear hP hD hS
                  obtain ⟨hP, hD⟩ := rgS5_abb24c5 (e := (a0_30, .inl (a0_30_c, 48, .inl y62))) hP9 hD9 (congrArg (fun z9 => (((a0_30, .inl (a0_30_c, 48, .inl z9)) : Nat × va_E))) e_y62)
                  have hS := hS9; clear hP9 hD9 hS9
                  refine lv_aload_n hx hb dX9_takesOf_115 rfl (lv_at hl 2 rfl) ?_
                  have hPc := (rgP5_1120ef2 hP)
                  have hKc := (rgK4_63375da hK)
                  have hDc := (rgD5_721afdf hD)
                  have hFc := freeW hDc hS hA
                  refine va_callv (va_runV (As := []) (rest := []) ⟨hx, hb, hml, hown, hts⟩ (k_X9_steps l dC dI g H.size (a0) (a0_0) (a0_1) (a0_2) (a0_3) (a0_4) (a0_5) (a0_6) (za0_7_20) (za0_8_21) (za0_9_22) (za0_10_23) (za0_11_24) (za0_12_54) (za0_13_55) (a0_14) (a0_15) (a0_16) (a0_17) (a0_18) (a0_19) (a0_20) (a0_21) (a0_22) (a0_23) (a0_24) (a0_25) (a0_26) (a0_27) (a0_28) (a0_29) (a0_30) (a0_31) (a0_32) (a0_33) (a0_34) (a0_35) (a0_36) (a0_37) (a0_38) (a0_39) (a0_40) (a0_41) (a0_42) (a0_43) (a0_4_c) (a0_4_f) (by omega) (by omega) (by omega) (by omega) (by omega) (by omega) (by omega)) (cwV 0 hts (gwV qw_468 qw_469 qw_470 qw_386 qw_467) rfl rfl rfl (by decide +kernel) ⟨Nat.le_of_ble_eq_true rfl, Nat.le_of_ble_eq_true rfl⟩) ⟨fun a U g9 mk q => ⟨q.1, q.2.1, q.2.2.1, va_K.moved (u := U) (U := U.calling g9 mk a) (Vm.Alike.refl U.vm) q.2.2.2.1, q.2.2.2.2.1, Ev.bl q.2.2.2.2.2⟩, va_recv hK hP (ci := 8) (q0 := 0) rfl rgL5_a6879b9, fun U hU hW => ⟨rfl, by rw [hU], atB hU hPc, va_K.moved hW.alike hKc, hDc.weaken (fun _ _ _ _ => trivial), hE.go hS hFc hU hW⟩⟩ rfl rfl hl.1 rfl (lv_room (Nat.le_of_ble_eq_true rfl)) dX9_takesOf_116 ⟨Nat.le_of_ble_eq_true rfl, Nat.le_of_ble_eq_true rfl⟩) hS (fun q _ h => hFc q h) hFc (fun u63 t H1 locs ht hvm h_u63 hB hz1 hk1 hS => ?_)
                  obtain ⟨za0_7_65, za0_8_66, za0_9_67, za0_10_68, za0_11_69, hF70, hF71, hP1, hK1, hD1⟩ := hB
                  have hK1 := va_K.moved hvm.symm hK1
                  have hJ9 := rgJ5_833ae3d hP hD hk1 hFc (atH ht hP1) hD1
                  clear hP hD hPc hKc hDc hFc hP1 hD1 hk1 hz1
                  obtain ⟨hP, hD⟩ := hJ9
                  clear hK1
                  generalize H1 = H at hP hS ⊢
                  refine W.widen (k := 0) (n := 0) (Nat.le_of_ble_eq_true rfl) (Nat.le_of_ble_eq_true rfl) ?_
                  obtain ⟨x72, e_x72⟩ : ∃ y : Int32, y = l2_2 + 1 := ⟨_, rfl⟩
                  refine lv_iinc (v := x72) (lv' := [(2, .int x72), (3, .int r35), (0, .ref a0), (1, .int a1)]) hx hb dX9_takesOf_119 hl (k := 1) rfl (by rw [e_x72]; rfl) (by decide) rfl (fun ls hl => ?_)
                  try have e_x72 := ti_add e_x72 rfl (show (1 : Int32).toInt = 1 by decide) (by omega)
                  refine lv_goto (tgt := 2) hx hb dX9_takesOf_122 (by decide) ?_
                  exact ih2 ((2147483647 - x72.toInt).toNat) _ _ _ (by omega) ⟨x72, za0_7_65, za0_8_66, za0_9_67, za0_10_68, za0_11_69, za0_12_54, za0_13_55, y62, rfl, (by omega), (by omega), (by omega), lv_sub hl [0, 2, 3] rfl, hP, hD, hS⟩
                · have c98_58 : r53.toInt = 0 := (cv_eq rfl (by decide)).mp c98_58
                  refine lv_iconst (v := 0) hx hb dX9_takesOf_101 (by decide) ?_
                  have qc0 : (0 : Int32).toInt = 0 := by decide
                  refine W.widen (k := 0) (n := 0) (Nat.le_of_ble_eq_true rfl) (Nat.le_of_ble_eq_true rfl) ?_
                  have hP9 := hP
                  have hD9 := hD
                  have hK9 := (rgK4_6738937 hK)
                  have hf9_0 : (0 ≤ za0_7_20.toInt ∧ za0_7_20.toInt ≤ 1000) := by omega
                  have hf9_1 : (0 ≤ za0_8_21.toInt ∧ za0_8_21.toInt ≤ 1000) := by omega
                  have hf9_2 : ((0 : Int32) = 0 ∨ (0 : Int32) = 1) := (by decide)
                  exact W.zret (v := 0) hx hb hr rfl (fun t ht hW => ⟨⟨0, 0, rfl, rfl, za0_7_20, za0_8_21, za0_9_22, za0_10_23, za0_11_24, za0_12_54, za0_13_55, w2_4, hf9_0, hf9_1, hf9_2, atB ht hP9, va_K.moved hW.alike hK9, hD9⟩, hS.F ht⟩) hS.2.2 dX9_takesOf_102
          · have c56_36 : ¬ (r35.toInt < 0) := mt (cv_lt rfl (by decide)).mpr c56_36
            refine lv_aload_n hx hb dX9_takesOf_59 rfl (lv_at hl 2 rfl) ?_
            refine va_get (D := (dC, dI)) (ci := 8) (v := .ref a0_30) (C := RX9) (T := TX9) (N := 44) hx hb hts inlX9 hown hK hP 0 rgL5_a6879b9 rfl 30 (by decide) (hts (.fieldLink RX9 51 "ClosedUntilModel" "ofPeople" "[I") qw_500) (fun _ h9 => h9) rfl dX9_takesOf_60 ?_
            refine lv_iload_n hx hb dX9_takesOf_63 rfl (lv_at hl 3 rfl) ?_
            refine va_iald hx hb hK hP 4 3 rgL5_c0b45fd rgT4_a0d579d (vinI (by omega) (by omega)) dX9_takesOf_64 ?_
            refine lv_topi (fun x73 e_x73 => ?_)
            have q_x73 := congrArg Int32.toInt e_x73
            have b_x73 := i32b x73
            refine lv_iload_n hx hb dX9_takesOf_65 rfl (lv_at hl 0 rfl) ?_
            refine lv_ishr hx hb dX9_takesOf_66 ?_
            refine lv_topi (fun x74 e_x74 => ?_)
            refine lv_iconst (v := 1) hx hb dX9_takesOf_67 (by decide) ?_
            refine lv_iand hx hb dX9_takesOf_68 ?_
            refine lv_topi (fun x75 e_x75 => ?_)
            have e_x75 := ti_and e_x75 (show (1 : Int32).toInt = 1 by decide) (by decide)
            refine lv_if_ne (tgt := 76) hx hb dX9_takesOf_69 (by decide) (fun c69_76 => ?_) (fun c69_76 => ?_)
            · have c69_76 : ¬ (x75.toInt = 0) := mt (cv_eq rfl (by decide)).mpr c69_76
              refine lv_iconst (v := 0) hx hb dX9_takesOf_76 (by decide) ?_
              refine lv_iconst (v := 2) hx hb dX9_takesOf_77 (by decide) ?_
              have qc0 : (0 : Int32).toInt = 0 := by decide
              have qc2 : (2 : Int32).toInt = 2 := by decide
              have hPc := (rgP5_89a3f62 hP)
              have hKc := (rgK4_6738937 hK)
              have hDc := (rgD5_0e893dd hD)
              have hFc := freeW hDc hS hA
              refine va_calli (va_runV (As := [.int 0, .int 2]) (rest := []) ⟨hx, hb, hml, hown, hts⟩ (k_X9_must l dC dI g H.size (a0) (0) (2) (a0_0) (a0_1) (a0_2) (a0_3) (a0_4) (a0_5) (a0_6) (za0_7_20) (za0_8_21) (za0_9_22) (za0_10_23) (za0_11_24) (za0_12_30) (za0_13_31) (a0_14) (a0_15) (a0_16) (a0_17) (a0_18) (a0_19) (a0_20) (a0_21) (a0_22) (a0_23) (a0_24) (a0_25) (a0_26) (a0_27) (a0_28) (a0_29) (a0_30) (a0_31) (a0_32) (a0_33) (a0_34) (a0_35) (a0_36) (a0_37) (a0_38) (a0_39) (a0_40) (a0_41) (a0_42) (a0_43) (by omega) (by omega) (by omega) (by omega) (by omega) (by omega) (by omega) (by omega)) (cwV 2 hts (gwV qw_472 qw_473 qw_474 qw_386 qw_471) rfl rfl rfl (by decide +kernel) ⟨Nat.le_of_ble_eq_true rfl, Nat.le_of_ble_eq_true rfl⟩) ⟨fun a U g9 mk q => ⟨q.1, q.2.1, q.2.2.1, va_K.moved (u := U) (U := U.calling g9 mk a) (Vm.Alike.refl U.vm) q.2.2.2.1, q.2.2.2.2.1, Ev.bl q.2.2.2.2.2⟩, va_recv hK hP (ci := 8) (q0 := 0) rfl rgL5_a6879b9, fun U hU hW => ⟨rfl, by rw [hU], atB hU hPc, va_K.moved hW.alike hKc, hDc.weaken (fun _ _ _ _ => trivial), hE.go hS hFc hU hW⟩⟩ rfl rfl hl.1 rfl (lv_room (Nat.le_of_ble_eq_true rfl)) dX9_takesOf_78 ⟨Nat.le_of_ble_eq_true rfl, Nat.le_of_ble_eq_true rfl⟩) hS (fun q _ h => hFc q h) hFc (fun r78 u77 t H1 locs ht hvm h_u77 hB hz1 hk1 hS => ?_)
              obtain ⟨za0_12_79, za0_13_80, hF81, hF82, hP1, hK1, hD1⟩ := hB
              have hK1 := va_K.moved hvm.symm hK1
              have hJ9 := rgJ5_178c2bf hP hD hk1 hFc (atH ht hP1) hD1
              clear hP hD hPc hKc hDc hFc hP1 hD1 hk1 hz1
              obtain ⟨hP, hD⟩ := hJ9
              clear hK1
              generalize H1 = H at hP hS ⊢
              refine W.widen (k := 0) (n := 0) (Nat.le_of_ble_eq_true rfl) (Nat.le_of_ble_eq_true rfl) ?_
              have h_r78 := congrArg Int32.toInt h_u77
              have hz_r78 : r78 = 0 ∨ r78 = 1 := h_u77 ▸ hF81
              have b_r78 := z01 hz_r78
              refine cst (v := 0) (Int32.toInt_inj.mp (by rw [show (0 : Int32).toInt = 0 by decide]; omega)) ?_
              refine lv_if_eq (tgt := 101) hx hb dX9_takesOf_81 (by decide) (fun c81_83 => ?_) (fun c81_83 => by exfalso; exact absurd c81_83 (by decide))
              refine lv_iconst (v := 0) hx hb dX9_takesOf_101 (by decide) ?_
              have qc0 : (0 : Int32).toInt = 0 := by decide
              refine W.widen (k := 0) (n := 0) (Nat.le_of_ble_eq_true rfl) (Nat.le_of_ble_eq_true rfl) ?_
              have hP9 := hP
              have hD9 := hD
              have hK9 := (rgK4_6738937 hK)
              have hf9_0 : (0 ≤ za0_7_20.toInt ∧ za0_7_20.toInt ≤ 1000) := by omega
              have hf9_1 : (0 ≤ za0_8_21.toInt ∧ za0_8_21.toInt ≤ 1000) := by omega
              have hf9_2 : ((0 : Int32) = 0 ∨ (0 : Int32) = 1) := (by decide)
              exact W.zret (v := 0) hx hb hr rfl (fun t ht hW => ⟨⟨0, 0, rfl, rfl, za0_7_20, za0_8_21, za0_9_22, za0_10_23, za0_11_24, za0_12_79, za0_13_80, w2_4, hf9_0, hf9_1, hf9_2, atB ht hP9, va_K.moved hW.alike hK9, hD9⟩, hS.F ht⟩) hS.2.2 dX9_takesOf_102
            · have c69_76 : x75.toInt = 0 := (cv_eq rfl (by decide)).mp c69_76
              refine lv_iconst (v := 1) hx hb dX9_takesOf_72 (by decide) ?_
              refine lv_goto (tgt := 77) hx hb dX9_takesOf_73 (by decide) ?_
              refine lv_iconst (v := 2) hx hb dX9_takesOf_77 (by decide) ?_
              have qc1 : (1 : Int32).toInt = 1 := by decide
              have qc2 : (2 : Int32).toInt = 2 := by decide
              have hPc := (rgP5_89a3f62 hP)
              have hKc := (rgK4_6738937 hK)
              have hDc := (rgD5_0e893dd hD)
              have hFc := freeW hDc hS hA
              refine va_calli (va_runV (As := [.int 1, .int 2]) (rest := []) ⟨hx, hb, hml, hown, hts⟩ (k_X9_must l dC dI g H.size (a0) (1) (2) (a0_0) (a0_1) (a0_2) (a0_3) (a0_4) (a0_5) (a0_6) (za0_7_20) (za0_8_21) (za0_9_22) (za0_10_23) (za0_11_24) (za0_12_30) (za0_13_31) (a0_14) (a0_15) (a0_16) (a0_17) (a0_18) (a0_19) (a0_20) (a0_21) (a0_22) (a0_23) (a0_24) (a0_25) (a0_26) (a0_27) (a0_28) (a0_29) (a0_30) (a0_31) (a0_32) (a0_33) (a0_34) (a0_35) (a0_36) (a0_37) (a0_38) (a0_39) (a0_40) (a0_41) (a0_42) (a0_43) (by omega) (by omega) (by omega) (by omega) (by omega) (by omega) (by omega) (by omega)) (cwV 2 hts (gwV qw_472 qw_473 qw_474 qw_386 qw_471) rfl rfl rfl (by decide +kernel) ⟨Nat.le_of_ble_eq_true rfl, Nat.le_of_ble_eq_true rfl⟩) ⟨fun a U g9 mk q => ⟨q.1, q.2.1, q.2.2.1, va_K.moved (u := U) (U := U.calling g9 mk a) (Vm.Alike.refl U.vm) q.2.2.2.1, q.2.2.2.2.1, Ev.bl q.2.2.2.2.2⟩, va_recv hK hP (ci := 8) (q0 := 0) rfl rgL5_a6879b9, fun U hU hW => ⟨rfl, by rw [hU], atB hU hPc, va_K.moved hW.alike hKc, hDc.weaken (fun _ _ _ _ => trivial), hE.go hS hFc hU hW⟩⟩ rfl rfl hl.1 rfl (lv_room (Nat.le_of_ble_eq_true rfl)) dX9_takesOf_78 ⟨Nat.le_of_ble_eq_true rfl, Nat.le_of_ble_eq_true rfl⟩) hS (fun q _ h => hFc q h) hFc (fun r85 u84 t H1 locs ht hvm h_u84 hB hz1 hk1 hS => ?_)
              obtain ⟨za0_12_86, za0_13_87, hF88, hF89, hP1, hK1, hD1⟩ := hB
              have hK1 := va_K.moved hvm.symm hK1
              have hJ9 := rgJ5_178c2bf hP hD hk1 hFc (atH ht hP1) hD1
              clear hP hD hPc hKc hDc hFc hP1 hD1 hk1 hz1
              obtain ⟨hP, hD⟩ := hJ9
              clear hK1
              generalize H1 = H at hP hS ⊢
              refine W.widen (k := 0) (n := 0) (Nat.le_of_ble_eq_true rfl) (Nat.le_of_ble_eq_true rfl) ?_
              have h_r85 := congrArg Int32.toInt h_u84
              have hz_r85 : r85 = 0 ∨ r85 = 1 := h_u84 ▸ hF88
              have b_r85 := z01 hz_r85
              refine lv_if_eq (tgt := 101) hx hb dX9_takesOf_81 (by decide) (fun c81_90 => ?_) (fun c81_90 => ?_)
              · have c81_90 : r85.toInt = 0 := (cv_eq rfl (by decide)).mp c81_90
                refine lv_iconst (v := 0) hx hb dX9_takesOf_101 (by decide) ?_
                have qc0 : (0 : Int32).toInt = 0 := by decide
                refine W.widen (k := 0) (n := 0) (Nat.le_of_ble_eq_true rfl) (Nat.le_of_ble_eq_true rfl) ?_
                have hP9 := hP
                have hD9 := hD
                have hK9 := (rgK4_6738937 hK)
                have hf9_0 : (0 ≤ za0_7_20.toInt ∧ za0_7_20.toInt ≤ 1000) := by omega
                have hf9_1 : (0 ≤ za0_8_21.toInt ∧ za0_8_21.toInt ≤ 1000) := by omega
                have hf9_2 : ((0 : Int32) = 0 ∨ (0 : Int32) = 1) := (by decide)
                exact W.zret (v := 0) hx hb hr rfl (fun t ht hW => ⟨⟨0, 0, rfl, rfl, za0_7_20, za0_8_21, za0_9_22, za0_10_23, za0_11_24, za0_12_86, za0_13_87, w2_4, hf9_0, hf9_1, hf9_2, atB ht hP9, va_K.moved hW.alike hK9, hD9⟩, hS.F ht⟩) hS.2.2 dX9_takesOf_102
              · have c81_90 : ¬ (r85.toInt = 0) := mt (cv_eq rfl (by decide)).mpr c81_90
                refine lv_aload_n hx hb dX9_takesOf_84 rfl (lv_at hl 2 rfl) ?_
                refine lv_iload_n hx hb dX9_takesOf_85 rfl (lv_at hl 0 rfl) ?_
                refine lv_if_lt (tgt := 93) hx hb dX9_takesOf_86 (by decide) (fun c86_91 => ?_) (fun c86_91 => ?_)
                · have c86_91 : r35.toInt < 0 := (cv_lt rfl (by decide)).mp c86_91
                  refine lv_iconst (v := 0) hx hb dX9_takesOf_93 (by decide) ?_
                  refine lv_iconst (v := 3) hx hb dX9_takesOf_94 (by decide) ?_
                  have qc0 : (0 : Int32).toInt = 0 := by decide
                  have qc3 : (3 : Int32).toInt = 3 := by decide
                  have hPc := (rgP5_89a3f62 hP)
                  have hKc := (rgK4_6738937 hK)
                  have hDc := (rgD5_0e893dd hD)
                  have hFc := freeW hDc hS hA
                  refine va_calli (va_runV (As := [.int 0, .int 3]) (rest := []) ⟨hx, hb, hml, hown, hts⟩ (k_X9_must l dC dI g H.size (a0) (0) (3) (a0_0) (a0_1) (a0_2) (a0_3) (a0_4) (a0_5) (a0_6) (za0_7_20) (za0_8_21) (za0_9_22) (za0_10_23) (za0_11_24) (za0_12_86) (za0_13_87) (a0_14) (a0_15) (a0_16) (a0_17) (a0_18) (a0_19) (a0_20) (a0_21) (a0_22) (a0_23) (a0_24) (a0_25) (a0_26) (a0_27) (a0_28) (a0_29) (a0_30) (a0_31) (a0_32) (a0_33) (a0_34) (a0_35) (a0_36) (a0_37) (a0_38) (a0_39) (a0_40) (a0_41) (a0_42) (a0_43) (by omega) (by omega) (by omega) (by omega) (by omega) (by omega) (by omega) (by omega)) (cwV 2 hts (gwV qw_472 qw_473 qw_474 qw_386 qw_471) rfl rfl rfl (by decide +kernel) ⟨Nat.le_of_ble_eq_true rfl, Nat.le_of_ble_eq_true rfl⟩) ⟨fun a U g9 mk q => ⟨q.1, q.2.1, q.2.2.1, va_K.moved (u := U) (U := U.calling g9 mk a) (Vm.Alike.refl U.vm) q.2.2.2.1, q.2.2.2.2.1, Ev.bl q.2.2.2.2.2⟩, va_recv hK hP (ci := 8) (q0 := 0) rfl rgL5_a6879b9, fun U hU hW => ⟨rfl, by rw [hU], atB hU hPc, va_K.moved hW.alike hKc, hDc.weaken (fun _ _ _ _ => trivial), hE.go hS hFc hU hW⟩⟩ rfl rfl hl.1 rfl (lv_room (Nat.le_of_ble_eq_true rfl)) dX9_takesOf_95 ⟨Nat.le_of_ble_eq_true rfl, Nat.le_of_ble_eq_true rfl⟩) hS (fun q _ h => hFc q h) hFc (fun r93 u92 t H1 locs ht hvm h_u92 hB hz1 hk1 hS => ?_)
                  obtain ⟨za0_12_94, za0_13_95, hF96, hF97, hP1, hK1, hD1⟩ := hB
                  have hK1 := va_K.moved hvm.symm hK1
                  have hJ9 := rgJ5_178c2bf hP hD hk1 hFc (atH ht hP1) hD1
                  clear hP hD hPc hKc hDc hFc hP1 hD1 hk1 hz1
                  obtain ⟨hP, hD⟩ := hJ9
                  clear hK1
                  generalize H1 = H at hP hS ⊢
                  refine W.widen (k := 0) (n := 0) (Nat.le_of_ble_eq_true rfl) (Nat.le_of_ble_eq_true rfl) ?_
                  have h_r93 := congrArg Int32.toInt h_u92
                  have hz_r93 : r93 = 0 ∨ r93 = 1 := h_u92 ▸ hF96
                  have b_r93 := z01 hz_r93
                  refine cst (v := 0) (Int32.toInt_inj.mp (by rw [show (0 : Int32).toInt = 0 by decide]; omega)) ?_
                  refine lv_if_ne (tgt := 103) hx hb dX9_takesOf_98 (by decide) (fun c98_98 => by exfalso; exact absurd c98_98 (by decide)) (fun c98_98 => ?_)
                  refine lv_iconst (v := 0) hx hb dX9_takesOf_101 (by decide) ?_
                  have qc0 : (0 : Int32).toInt = 0 := by decide
                  refine W.widen (k := 0) (n := 0) (Nat.le_of_ble_eq_true rfl) (Nat.le_of_ble_eq_true rfl) ?_
                  have hP9 := hP
                  have hD9 := hD
                  have hK9 := (rgK4_6738937 hK)
                  have hf9_0 : (0 ≤ za0_7_20.toInt ∧ za0_7_20.toInt ≤ 1000) := by omega
                  have hf9_1 : (0 ≤ za0_8_21.toInt ∧ za0_8_21.toInt ≤ 1000) := by omega
                  have hf9_2 : ((0 : Int32) = 0 ∨ (0 : Int32) = 1) := (by decide)
                  exact W.zret (v := 0) hx hb hr rfl (fun t ht hW => ⟨⟨0, 0, rfl, rfl, za0_7_20, za0_8_21, za0_9_22, za0_10_23, za0_11_24, za0_12_94, za0_13_95, w2_4, hf9_0, hf9_1, hf9_2, atB ht hP9, va_K.moved hW.alike hK9, hD9⟩, hS.F ht⟩) hS.2.2 dX9_takesOf_102
                · have c86_91 : ¬ (r35.toInt < 0) := mt (cv_lt rfl (by decide)).mpr c86_91
                  refine lv_iconst (v := 1) hx hb dX9_takesOf_89 (by decide) ?_
                  refine lv_goto (tgt := 94) hx hb dX9_takesOf_90 (by decide) ?_
                  refine lv_iconst (v := 3) hx hb dX9_takesOf_94 (by decide) ?_
                  have qc1 : (1 : Int32).toInt = 1 := by decide
                  have qc3 : (3 : Int32).toInt = 3 := by decide
                  have hPc := (rgP5_89a3f62 hP)
                  have hKc := (rgK4_6738937 hK)
                  have hDc := (rgD5_0e893dd hD)
                  have hFc := freeW hDc hS hA
                  refine va_calli (va_runV (As := [.int 1, .int 3]) (rest := []) ⟨hx, hb, hml, hown, hts⟩ (k_X9_must l dC dI g H.size (a0) (1) (3) (a0_0) (a0_1) (a0_2) (a0_3) (a0_4) (a0_5) (a0_6) (za0_7_20) (za0_8_21) (za0_9_22) (za0_10_23) (za0_11_24) (za0_12_86) (za0_13_87) (a0_14) (a0_15) (a0_16) (a0_17) (a0_18) (a0_19) (a0_20) (a0_21) (a0_22) (a0_23) (a0_24) (a0_25) (a0_26) (a0_27) (a0_28) (a0_29) (a0_30) (a0_31) (a0_32) (a0_33) (a0_34) (a0_35) (a0_36) (a0_37) (a0_38) (a0_39) (a0_40) (a0_41) (a0_42) (a0_43) (by omega) (by omega) (by omega) (by omega) (by omega) (by omega) (by omega) (by omega)) (cwV 2 hts (gwV qw_472 qw_473 qw_474 qw_386 qw_471) rfl rfl rfl (by decide +kernel) ⟨Nat.le_of_ble_eq_true rfl, Nat.le_of_ble_eq_true rfl⟩) ⟨fun a U g9 mk q => ⟨q.1, q.2.1, q.2.2.1, va_K.moved (u := U) (U := U.calling g9 mk a) (Vm.Alike.refl U.vm) q.2.2.2.1, q.2.2.2.2.1, Ev.bl q.2.2.2.2.2⟩, va_recv hK hP (ci := 8) (q0 := 0) rfl rgL5_a6879b9, fun U hU hW => ⟨rfl, by rw [hU], atB hU hPc, va_K.moved hW.alike hKc, hDc.weaken (fun _ _ _ _ => trivial), hE.go hS hFc hU hW⟩⟩ rfl rfl hl.1 rfl (lv_room (Nat.le_of_ble_eq_true rfl)) dX9_takesOf_95 ⟨Nat.le_of_ble_eq_true rfl, Nat.le_of_ble_eq_true rfl⟩) hS (fun q _ h => hFc q h) hFc (fun r100 u99 t H1 locs ht hvm h_u99 hB hz1 hk1 hS => ?_)
                  obtain ⟨za0_12_101, za0_13_102, hF103, hF104, hP1, hK1, hD1⟩ := hB
                  have hK1 := va_K.moved hvm.symm hK1
                  have hJ9 := rgJ5_178c2bf hP hD hk1 hFc (atH ht hP1) hD1
                  clear hP hD hPc hKc hDc hFc hP1 hD1 hk1 hz1
                  obtain ⟨hP, hD⟩ := hJ9
                  clear hK1
                  generalize H1 = H at hP hS ⊢
                  refine W.widen (k := 0) (n := 0) (Nat.le_of_ble_eq_true rfl) (Nat.le_of_ble_eq_true rfl) ?_
                  have h_r100 := congrArg Int32.toInt h_u99
                  have hz_r100 : r100 = 0 ∨ r100 = 1 := h_u99 ▸ hF103
                  have b_r100 := z01 hz_r100
                  refine lv_if_ne (tgt := 103) hx hb dX9_takesOf_98 (by decide) (fun c98_105 => ?_) (fun c98_105 => ?_)
                  · have c98_105 : ¬ (r100.toInt = 0) := mt (cv_eq rfl (by decide)).mpr c98_105
                    refine lv_aload_n hx hb dX9_takesOf_103 rfl (lv_at hl 2 rfl) ?_
                    refine va_get (D := (dC, dI)) (ci := 8) (v := .ref a0_30) (C := RX9) (T := TX9) (N := 44) hx hb hts inlX9 hown hK hP 0 rgL5_a6879b9 rfl 30 (by decide) (hts (.fieldLink RX9 51 "ClosedUntilModel" "ofPeople" "[I") qw_500) (fun _ h9 => h9) rfl dX9_takesOf_104 ?_
                    refine lv_iload_n hx hb dX9_takesOf_107 rfl (lv_at hl 3 rfl) ?_
                    refine lv_dup2_11 hx hb dX9_takesOf_108 rfl rfl ?_
                    refine va_iald hx hb hK hP 4 3 rgL5_c0b45fd rgT4_a0d579d (vinI (by omega) (by omega)) dX9_takesOf_109 ?_
                    refine lv_topi (fun x106 e_x106 => ?_)
                    have q_x106 := congrArg Int32.toInt e_x106
                    have b_x106 := i32b x106
                    refine lv_iconst (v := 1) hx hb dX9_takesOf_110 (by decide) ?_
                    refine lv_iload_n hx hb dX9_takesOf_111 rfl (lv_at hl 0 rfl) ?_
                    refine lv_ishl hx hb dX9_takesOf_112 ?_
                    refine lv_topi (fun x107 e_x107 => ?_)
                    refine lv_ior hx hb dX9_takesOf_113 ?_
                    refine lv_topi (fun x108 e_x108 => ?_)
                    refine va_iast hx hb hK hP hD hS 4 3 rgL5_c0b45fd rgT4_a0d579d (vinI (by omega) (by omega)) dX9_takesOf_114 (fun H locs hP9 hD9 hS9 => ?_)
                    obtain ⟨y109, e_y109⟩ : ∃ y, (upd w2_4 a1.toNatClampNeg x108) = y := ⟨_, rfl⟩
                    clear hP hD hS
                    obtain ⟨hP, hD⟩ := rgS5_abb24c5 (e := (a0_30, .inl (a0_30_c, 48, .inl y109))) hP9 hD9 (congrArg (fun z9 => (((a0_30, .inl (a0_30_c, 48, .inl z9)) : Nat × va_E))) e_y109)
                    have hS := hS9; clear hP9 hD9 hS9
                    refine lv_aload_n hx hb dX9_takesOf_115 rfl (lv_at hl 2 rfl) ?_
                    have hPc := (rgP5_1120ef2 hP)
                    have hKc := (rgK4_63375da hK)
                    have hDc := (rgD5_721afdf hD)
                    have hFc := freeW hDc hS hA
                    refine va_callv (va_runV (As := []) (rest := []) ⟨hx, hb, hml, hown, hts⟩ (k_X9_steps l dC dI g H.size (a0) (a0_0) (a0_1) (a0_2) (a0_3) (a0_4) (a0_5) (a0_6) (za0_7_20) (za0_8_21) (za0_9_22) (za0_10_23) (za0_11_24) (za0_12_101) (za0_13_102) (a0_14) (a0_15) (a0_16) (a0_17) (a0_18) (a0_19) (a0_20) (a0_21) (a0_22) (a0_23) (a0_24) (a0_25) (a0_26) (a0_27) (a0_28) (a0_29) (a0_30) (a0_31) (a0_32) (a0_33) (a0_34) (a0_35) (a0_36) (a0_37) (a0_38) (a0_39) (a0_40) (a0_41) (a0_42) (a0_43) (a0_4_c) (a0_4_f) (by omega) (by omega) (by omega) (by omega) (by omega) (by omega) (by omega)) (cwV 0 hts (gwV qw_468 qw_469 qw_470 qw_386 qw_467) rfl rfl rfl (by decide +kernel) ⟨Nat.le_of_ble_eq_true rfl, Nat.le_of_ble_eq_true rfl⟩) ⟨fun a U g9 mk q => ⟨q.1, q.2.1, q.2.2.1, va_K.moved (u := U) (U := U.calling g9 mk a) (Vm.Alike.refl U.vm) q.2.2.2.1, q.2.2.2.2.1, Ev.bl q.2.2.2.2.2⟩, va_recv hK hP (ci := 8) (q0 := 0) rfl rgL5_a6879b9, fun U hU hW => ⟨rfl, by rw [hU], atB hU hPc, va_K.moved hW.alike hKc, hDc.weaken (fun _ _ _ _ => trivial), hE.go hS hFc hU hW⟩⟩ rfl rfl hl.1 rfl (lv_room (Nat.le_of_ble_eq_true rfl)) dX9_takesOf_116 ⟨Nat.le_of_ble_eq_true rfl, Nat.le_of_ble_eq_true rfl⟩) hS (fun q _ h => hFc q h) hFc (fun u110 t H1 locs ht hvm h_u110 hB hz1 hk1 hS => ?_)
                    obtain ⟨za0_7_112, za0_8_113, za0_9_114, za0_10_115, za0_11_116, hF117, hF118, hP1, hK1, hD1⟩ := hB
                    have hK1 := va_K.moved hvm.symm hK1
                    have hJ9 := rgJ5_833ae3d hP hD hk1 hFc (atH ht hP1) hD1
                    clear hP hD hPc hKc hDc hFc hP1 hD1 hk1 hz1
                    obtain ⟨hP, hD⟩ := hJ9
                    clear hK1
                    generalize H1 = H at hP hS ⊢
                    refine W.widen (k := 0) (n := 0) (Nat.le_of_ble_eq_true rfl) (Nat.le_of_ble_eq_true rfl) ?_
                    obtain ⟨x119, e_x119⟩ : ∃ y : Int32, y = l2_2 + 1 := ⟨_, rfl⟩
                    refine lv_iinc (v := x119) (lv' := [(2, .int x119), (3, .int r35), (0, .ref a0), (1, .int a1)]) hx hb dX9_takesOf_119 hl (k := 1) rfl (by rw [e_x119]; rfl) (by decide) rfl (fun ls hl => ?_)
                    try have e_x119 := ti_add e_x119 rfl (show (1 : Int32).toInt = 1 by decide) (by omega)
                    refine lv_goto (tgt := 2) hx hb dX9_takesOf_122 (by decide) ?_
                    exact ih2 ((2147483647 - x119.toInt).toNat) _ _ _ (by omega) ⟨x119, za0_7_112, za0_8_113, za0_9_114, za0_10_115, za0_11_116, za0_12_101, za0_13_102, y109, rfl, (by omega), (by omega), (by omega), lv_sub hl [0, 2, 3] rfl, hP, hD, hS⟩
                  · have c98_105 : r100.toInt = 0 := (cv_eq rfl (by decide)).mp c98_105
                    refine lv_iconst (v := 0) hx hb dX9_takesOf_101 (by decide) ?_
                    have qc0 : (0 : Int32).toInt = 0 := by decide
                    refine W.widen (k := 0) (n := 0) (Nat.le_of_ble_eq_true rfl) (Nat.le_of_ble_eq_true rfl) ?_
                    have hP9 := hP
                    have hD9 := hD
                    have hK9 := (rgK4_6738937 hK)
                    have hf9_0 : (0 ≤ za0_7_20.toInt ∧ za0_7_20.toInt ≤ 1000) := by omega
                    have hf9_1 : (0 ≤ za0_8_21.toInt ∧ za0_8_21.toInt ≤ 1000) := by omega
                    have hf9_2 : ((0 : Int32) = 0 ∨ (0 : Int32) = 1) := (by decide)
                    exact W.zret (v := 0) hx hb hr rfl (fun t ht hW => ⟨⟨0, 0, rfl, rfl, za0_7_20, za0_8_21, za0_9_22, za0_10_23, za0_11_24, za0_12_101, za0_13_102, w2_4, hf9_0, hf9_1, hf9_2, atB ht hP9, va_K.moved hW.alike hK9, hD9⟩, hS.F ht⟩) hS.2.2 dX9_takesOf_102
        · have c44_34 : r29.toInt = 0 := (cv_eq rfl (by decide)).mp c44_34
          refine lv_iconst (v := 0) hx hb dX9_takesOf_47 (by decide) ?_
          have qc0 : (0 : Int32).toInt = 0 := by decide
          refine W.widen (k := 0) (n := 0) (Nat.le_of_ble_eq_true rfl) (Nat.le_of_ble_eq_true rfl) ?_
          have hP9 := hP
          have hD9 := hD
          have hK9 := (rgK4_6738937 hK)
          have hf9_0 : (0 ≤ za0_7_20.toInt ∧ za0_7_20.toInt ≤ 1000) := by omega
          have hf9_1 : (0 ≤ za0_8_21.toInt ∧ za0_8_21.toInt ≤ 1000) := by omega
          have hf9_2 : ((0 : Int32) = 0 ∨ (0 : Int32) = 1) := (by decide)
          exact W.zret (v := 0) hx hb hr rfl (fun t ht hW => ⟨⟨0, 0, rfl, rfl, za0_7_20, za0_8_21, za0_9_22, za0_10_23, za0_11_24, za0_12_30, za0_13_31, w2_4, hf9_0, hf9_1, hf9_2, atB ht hP9, va_K.moved hW.alike hK9, hD9⟩, hS.F ht⟩) hS.2.2 dX9_takesOf_48
      · have c26_17 : r12.toInt = 0 := (cv_eq rfl (by decide)).mp c26_17
        refine lv_iconst (v := 0) hx hb dX9_takesOf_29 (by decide) ?_
        have qc0 : (0 : Int32).toInt = 0 := by decide
        refine W.widen (k := 0) (n := 0) (Nat.le_of_ble_eq_true rfl) (Nat.le_of_ble_eq_true rfl) ?_
        have hP9 := hP
        have hD9 := hD
        have hK9 := (rgK4_6738937 hK)
        have hf9_0 : (0 ≤ f2_0_7.toInt ∧ f2_0_7.toInt ≤ 1000) := by omega
        have hf9_1 : (0 ≤ f2_0_8.toInt ∧ f2_0_8.toInt ≤ 1000) := by omega
        have hf9_2 : ((0 : Int32) = 0 ∨ (0 : Int32) = 1) := (by decide)
        exact W.zret (v := 0) hx hb hr rfl (fun t ht hW => ⟨⟨0, 0, rfl, rfl, f2_0_7, f2_0_8, f2_0_9, f2_0_10, f2_0_11, za0_12_13, za0_13_14, w2_4, hf9_0, hf9_1, hf9_2, atB ht hP9, va_K.moved hW.alike hK9, hD9⟩, hS.F ht⟩) hS.2.2 dX9_takesOf_30
