theorem dX9_review_0 : decode cX9_review 0 = .ok (.aload_n 0, 1) := by decide +kernel
theorem dX9_review_1 : decode cX9_review 1 = .ok (.iconst 0, 1) := by decide +kernel
theorem dX9_review_2 : decode cX9_review 2 = .ok (.putfield 85, 3) := by decide +kernel
theorem dX9_review_5 : decode cX9_review 5 = .ok (.aload_n 0, 1) := by decide +kernel
theorem dX9_review_6 : decode cX9_review 6 = .ok (.iload_n 1, 1) := by decide +kernel
theorem dX9_review_7 : decode cX9_review 7 = .ok (.invokevirtual 337, 3) := by decide +kernel
theorem dX9_review_10 : decode cX9_review 10 = .ok (.ifCond .eq 42, 3) := by decide +kernel
theorem dX9_review_13 : decode cX9_review 13 = .ok (.iload_n 2, 1) := by decide +kernel
theorem dX9_review_14 : decode cX9_review 14 = .ok (.i2l, 1) := by decide +kernel
theorem dX9_review_15 : decode cX9_review 15 = .ok (.lconst 0, 1) := by decide +kernel
theorem dX9_review_16 : decode cX9_review 16 = .ok (.ldc2_w 129, 3) := by decide +kernel
theorem dX9_review_19 : decode cX9_review 19 = .ok (.invokestatic 123, 3) := by decide +kernel
theorem dX9_review_22 : decode cX9_review 22 = .ok (.ifCond .eq 30, 3) := by decide +kernel
theorem dX9_review_25 : decode cX9_review 25 = .ok (.iload_n 3, 1) := by decide +kernel
theorem dX9_review_26 : decode cX9_review 26 = .ok (.i2l, 1) := by decide +kernel
theorem dX9_review_27 : decode cX9_review 27 = .ok (.ldc2_w 384, 3) := by decide +kernel
theorem dX9_review_30 : decode cX9_review 30 = .ok (.ldc2_w 386, 3) := by decide +kernel
theorem dX9_review_33 : decode cX9_review 33 = .ok (.invokestatic 123, 3) := by decide +kernel
theorem dX9_review_36 : decode cX9_review 36 = .ok (.ifCond .eq 16, 3) := by decide +kernel
theorem dX9_review_39 : decode cX9_review 39 = .ok (.aload_n 0, 1) := by decide +kernel
theorem dX9_review_40 : decode cX9_review 40 = .ok (.getfield 70, 3) := by decide +kernel
theorem dX9_review_43 : decode cX9_review 43 = .ok (.bipush 44, 2) := by decide +kernel
theorem dX9_review_45 : decode cX9_review 45 = .ok (.iload_n 1, 1) := by decide +kernel
theorem dX9_review_46 : decode cX9_review 46 = .ok (.iadd, 1) := by decide +kernel
theorem dX9_review_47 : decode cX9_review 47 = .ok (.iaload, 1) := by decide +kernel
theorem dX9_review_48 : decode cX9_review 48 = .ok (.iconst 5, 1) := by decide +kernel
theorem dX9_review_49 : decode cX9_review 49 = .ok (.if_icmp .ne 5, 3) := by decide +kernel
theorem dX9_review_52 : decode cX9_review 52 = .ok (.iconst (-1), 1) := by decide +kernel
theorem dX9_review_53 : decode cX9_review 53 = .ok (.ireturn, 1) := by decide +kernel
theorem dX9_review_54 : decode cX9_review 54 = .ok (.aload_n 0, 1) := by decide +kernel
theorem dX9_review_55 : decode cX9_review 55 = .ok (.invokevirtual 388, 3) := by decide +kernel
theorem dX9_review_58 : decode cX9_review 58 = .ok (.aload_n 0, 1) := by decide +kernel
theorem dX9_review_59 : decode cX9_review 59 = .ok (.getfield 70, 3) := by decide +kernel
theorem dX9_review_62 : decode cX9_review 62 = .ok (.bipush 44, 2) := by decide +kernel
theorem dX9_review_64 : decode cX9_review 64 = .ok (.iload_n 1, 1) := by decide +kernel
theorem dX9_review_65 : decode cX9_review 65 = .ok (.iadd, 1) := by decide +kernel
theorem dX9_review_66 : decode cX9_review 66 = .ok (.iaload, 1) := by decide +kernel
theorem dX9_review_67 : decode cX9_review 67 = .ok (.istore 4, 2) := by decide +kernel
theorem dX9_review_69 : decode cX9_review 69 = .ok (.bipush 56, 2) := by decide +kernel
theorem dX9_review_71 : decode cX9_review 71 = .ok (.bipush 10, 2) := by decide +kernel
theorem dX9_review_73 : decode cX9_review 73 = .ok (.iload_n 1, 1) := by decide +kernel
theorem dX9_review_74 : decode cX9_review 74 = .ok (.imul, 1) := by decide +kernel
theorem dX9_review_75 : decode cX9_review 75 = .ok (.iadd, 1) := by decide +kernel
theorem dX9_review_76 : decode cX9_review 76 = .ok (.istore 5, 2) := by decide +kernel
theorem dX9_review_78 : decode cX9_review 78 = .ok (.iload 4, 2) := by decide +kernel
theorem dX9_review_80 : decode cX9_review 80 = .ok (.ifCond .le 81, 3) := by decide +kernel
theorem dX9_review_83 : decode cX9_review 83 = .ok (.aload_n 0, 1) := by decide +kernel
theorem dX9_review_84 : decode cX9_review 84 = .ok (.getfield 70, 3) := by decide +kernel
theorem dX9_review_87 : decode cX9_review 87 = .ok (.iload 5, 2) := by decide +kernel
theorem dX9_review_89 : decode cX9_review 89 = .ok (.iconst 2, 1) := by decide +kernel
theorem dX9_review_90 : decode cX9_review 90 = .ok (.iload 4, 2) := by decide +kernel
theorem dX9_review_92 : decode cX9_review 92 = .ok (.imul, 1) := by decide +kernel
theorem dX9_review_93 : decode cX9_review 93 = .ok (.iadd, 1) := by decide +kernel
theorem dX9_review_94 : decode cX9_review 94 = .ok (.iconst 2, 1) := by decide +kernel
theorem dX9_review_95 : decode cX9_review 95 = .ok (.isub, 1) := by decide +kernel
theorem dX9_review_96 : decode cX9_review 96 = .ok (.iaload, 1) := by decide +kernel
theorem dX9_review_97 : decode cX9_review 97 = .ok (.iload_n 2, 1) := by decide +kernel
theorem dX9_review_98 : decode cX9_review 98 = .ok (.if_icmp .le 63, 3) := by decide +kernel
theorem dX9_review_101 : decode cX9_review 101 = .ok (.aload_n 0, 1) := by decide +kernel
theorem dX9_review_102 : decode cX9_review 102 = .ok (.getfield 70, 3) := by decide +kernel
theorem dX9_review_105 : decode cX9_review 105 = .ok (.iload 5, 2) := by decide +kernel
theorem dX9_review_107 : decode cX9_review 107 = .ok (.iconst 2, 1) := by decide +kernel
theorem dX9_review_108 : decode cX9_review 108 = .ok (.iload 4, 2) := by decide +kernel
theorem dX9_review_110 : decode cX9_review 110 = .ok (.imul, 1) := by decide +kernel
theorem dX9_review_111 : decode cX9_review 111 = .ok (.iadd, 1) := by decide +kernel
theorem dX9_review_112 : decode cX9_review 112 = .ok (.aload_n 0, 1) := by decide +kernel
theorem dX9_review_113 : decode cX9_review 113 = .ok (.getfield 70, 3) := by decide +kernel
theorem dX9_review_116 : decode cX9_review 116 = .ok (.iload 5, 2) := by decide +kernel
theorem dX9_review_118 : decode cX9_review 118 = .ok (.iconst 2, 1) := by decide +kernel
theorem dX9_review_119 : decode cX9_review 119 = .ok (.iload 4, 2) := by decide +kernel
theorem dX9_review_121 : decode cX9_review 121 = .ok (.imul, 1) := by decide +kernel
theorem dX9_review_122 : decode cX9_review 122 = .ok (.iadd, 1) := by decide +kernel
theorem dX9_review_123 : decode cX9_review 123 = .ok (.iconst 2, 1) := by decide +kernel
theorem dX9_review_124 : decode cX9_review 124 = .ok (.isub, 1) := by decide +kernel
theorem dX9_review_125 : decode cX9_review 125 = .ok (.iaload, 1) := by decide +kernel
theorem dX9_review_126 : decode cX9_review 126 = .ok (.iastore, 1) := by decide +kernel
theorem dX9_review_127 : decode cX9_review 127 = .ok (.aload_n 0, 1) := by decide +kernel
theorem dX9_review_128 : decode cX9_review 128 = .ok (.getfield 70, 3) := by decide +kernel
theorem dX9_review_131 : decode cX9_review 131 = .ok (.iload 5, 2) := by decide +kernel
theorem dX9_review_133 : decode cX9_review 133 = .ok (.iconst 2, 1) := by decide +kernel
theorem dX9_review_134 : decode cX9_review 134 = .ok (.iload 4, 2) := by decide +kernel
theorem dX9_review_136 : decode cX9_review 136 = .ok (.imul, 1) := by decide +kernel
theorem dX9_review_137 : decode cX9_review 137 = .ok (.iadd, 1) := by decide +kernel
theorem dX9_review_138 : decode cX9_review 138 = .ok (.iconst 1, 1) := by decide +kernel
theorem dX9_review_139 : decode cX9_review 139 = .ok (.iadd, 1) := by decide +kernel
theorem dX9_review_140 : decode cX9_review 140 = .ok (.aload_n 0, 1) := by decide +kernel
theorem dX9_review_141 : decode cX9_review 141 = .ok (.getfield 70, 3) := by decide +kernel
theorem dX9_review_144 : decode cX9_review 144 = .ok (.iload 5, 2) := by decide +kernel
theorem dX9_review_146 : decode cX9_review 146 = .ok (.iconst 2, 1) := by decide +kernel
theorem dX9_review_147 : decode cX9_review 147 = .ok (.iload 4, 2) := by decide +kernel
theorem dX9_review_149 : decode cX9_review 149 = .ok (.imul, 1) := by decide +kernel
theorem dX9_review_150 : decode cX9_review 150 = .ok (.iadd, 1) := by decide +kernel
theorem dX9_review_151 : decode cX9_review 151 = .ok (.iconst 1, 1) := by decide +kernel
theorem dX9_review_152 : decode cX9_review 152 = .ok (.isub, 1) := by decide +kernel
theorem dX9_review_153 : decode cX9_review 153 = .ok (.iaload, 1) := by decide +kernel
theorem dX9_review_154 : decode cX9_review 154 = .ok (.iastore, 1) := by decide +kernel
theorem dX9_review_155 : decode cX9_review 155 = .ok (.iinc 4 (-1), 3) := by decide +kernel
theorem dX9_review_158 : decode cX9_review 158 = .ok (.goto (-80), 3) := by decide +kernel
theorem dX9_review_161 : decode cX9_review 161 = .ok (.aload_n 0, 1) := by decide +kernel
theorem dX9_review_162 : decode cX9_review 162 = .ok (.getfield 70, 3) := by decide +kernel
theorem dX9_review_165 : decode cX9_review 165 = .ok (.iload 5, 2) := by decide +kernel
theorem dX9_review_167 : decode cX9_review 167 = .ok (.iconst 2, 1) := by decide +kernel
theorem dX9_review_168 : decode cX9_review 168 = .ok (.iload 4, 2) := by decide +kernel
theorem dX9_review_170 : decode cX9_review 170 = .ok (.imul, 1) := by decide +kernel
theorem dX9_review_171 : decode cX9_review 171 = .ok (.iadd, 1) := by decide +kernel
theorem dX9_review_172 : decode cX9_review 172 = .ok (.iload_n 2, 1) := by decide +kernel
theorem dX9_review_173 : decode cX9_review 173 = .ok (.iastore, 1) := by decide +kernel
theorem dX9_review_174 : decode cX9_review 174 = .ok (.aload_n 0, 1) := by decide +kernel
theorem dX9_review_175 : decode cX9_review 175 = .ok (.getfield 70, 3) := by decide +kernel
theorem dX9_review_178 : decode cX9_review 178 = .ok (.iload 5, 2) := by decide +kernel
theorem dX9_review_180 : decode cX9_review 180 = .ok (.iconst 2, 1) := by decide +kernel
theorem dX9_review_181 : decode cX9_review 181 = .ok (.iload 4, 2) := by decide +kernel
theorem dX9_review_183 : decode cX9_review 183 = .ok (.imul, 1) := by decide +kernel
theorem dX9_review_184 : decode cX9_review 184 = .ok (.iadd, 1) := by decide +kernel
theorem dX9_review_185 : decode cX9_review 185 = .ok (.iconst 1, 1) := by decide +kernel
theorem dX9_review_186 : decode cX9_review 186 = .ok (.iadd, 1) := by decide +kernel
theorem dX9_review_187 : decode cX9_review 187 = .ok (.iload_n 3, 1) := by decide +kernel
theorem dX9_review_188 : decode cX9_review 188 = .ok (.iastore, 1) := by decide +kernel
theorem dX9_review_189 : decode cX9_review 189 = .ok (.aload_n 0, 1) := by decide +kernel
theorem dX9_review_190 : decode cX9_review 190 = .ok (.getfield 70, 3) := by decide +kernel
theorem dX9_review_193 : decode cX9_review 193 = .ok (.bipush 44, 2) := by decide +kernel
theorem dX9_review_195 : decode cX9_review 195 = .ok (.iload_n 1, 1) := by decide +kernel
theorem dX9_review_196 : decode cX9_review 196 = .ok (.iadd, 1) := by decide +kernel
theorem dX9_review_197 : decode cX9_review 197 = .ok (.dup2, 1) := by decide +kernel
theorem dX9_review_198 : decode cX9_review 198 = .ok (.iaload, 1) := by decide +kernel
theorem dX9_review_199 : decode cX9_review 199 = .ok (.iconst 1, 1) := by decide +kernel
theorem dX9_review_200 : decode cX9_review 200 = .ok (.iadd, 1) := by decide +kernel
theorem dX9_review_201 : decode cX9_review 201 = .ok (.iastore, 1) := by decide +kernel
theorem dX9_review_202 : decode cX9_review 202 = .ok (.aload_n 0, 1) := by decide +kernel
theorem dX9_review_203 : decode cX9_review 203 = .ok (.getfield 70, 3) := by decide +kernel
theorem dX9_review_206 : decode cX9_review 206 = .ok (.bipush 44, 2) := by decide +kernel
theorem dX9_review_208 : decode cX9_review 208 = .ok (.iload_n 1, 1) := by decide +kernel
theorem dX9_review_209 : decode cX9_review 209 = .ok (.iadd, 1) := by decide +kernel
theorem dX9_review_210 : decode cX9_review 210 = .ok (.iaload, 1) := by decide +kernel
theorem dX9_review_211 : decode cX9_review 211 = .ok (.ireturn, 1) := by decide +kernel
theorem dX9_lift_0 : decode cX9_lift 0 = .ok (.aload_n 0, 1) := by decide +kernel
theorem dX9_lift_1 : decode cX9_lift 1 = .ok (.iconst 0, 1) := by decide +kernel
theorem dX9_lift_2 : decode cX9_lift 2 = .ok (.putfield 85, 3) := by decide +kernel
theorem dX9_lift_5 : decode cX9_lift 5 = .ok (.aload_n 0, 1) := by decide +kernel
theorem dX9_lift_6 : decode cX9_lift 6 = .ok (.iload_n 1, 1) := by decide +kernel
theorem dX9_lift_7 : decode cX9_lift 7 = .ok (.invokevirtual 337, 3) := by decide +kernel
theorem dX9_lift_10 : decode cX9_lift 10 = .ok (.ifCond .eq 17, 3) := by decide +kernel
theorem dX9_lift_13 : decode cX9_lift 13 = .ok (.iload_n 2, 1) := by decide +kernel
theorem dX9_lift_14 : decode cX9_lift 14 = .ok (.i2l, 1) := by decide +kernel
theorem dX9_lift_15 : decode cX9_lift 15 = .ok (.ldc2_w 376, 3) := by decide +kernel
theorem dX9_lift_18 : decode cX9_lift 18 = .ok (.ldc2_w 129, 3) := by decide +kernel
theorem dX9_lift_21 : decode cX9_lift 21 = .ok (.invokestatic 123, 3) := by decide +kernel
theorem dX9_lift_24 : decode cX9_lift 24 = .ok (.ifCond .ne 6, 3) := by decide +kernel
theorem dX9_lift_27 : decode cX9_lift 27 = .ok (.bipush (-2), 2) := by decide +kernel
theorem dX9_lift_29 : decode cX9_lift 29 = .ok (.ireturn, 1) := by decide +kernel
theorem dX9_lift_30 : decode cX9_lift 30 = .ok (.aload_n 0, 1) := by decide +kernel
theorem dX9_lift_31 : decode cX9_lift 31 = .ok (.invokevirtual 388, 3) := by decide +kernel
theorem dX9_lift_34 : decode cX9_lift 34 = .ok (.aload_n 0, 1) := by decide +kernel
theorem dX9_lift_35 : decode cX9_lift 35 = .ok (.getfield 70, 3) := by decide +kernel
theorem dX9_lift_38 : decode cX9_lift 38 = .ok (.bipush 32, 2) := by decide +kernel
theorem dX9_lift_40 : decode cX9_lift 40 = .ok (.iload_n 1, 1) := by decide +kernel
theorem dX9_lift_41 : decode cX9_lift 41 = .ok (.iadd, 1) := by decide +kernel
theorem dX9_lift_42 : decode cX9_lift 42 = .ok (.iaload, 1) := by decide +kernel
theorem dX9_lift_43 : decode cX9_lift 43 = .ok (.istore_n 3, 1) := by decide +kernel
theorem dX9_lift_44 : decode cX9_lift 44 = .ok (.aload_n 0, 1) := by decide +kernel
theorem dX9_lift_45 : decode cX9_lift 45 = .ok (.getfield 70, 3) := by decide +kernel
theorem dX9_lift_48 : decode cX9_lift 48 = .ok (.bipush 32, 2) := by decide +kernel
theorem dX9_lift_50 : decode cX9_lift 50 = .ok (.iload_n 1, 1) := by decide +kernel
theorem dX9_lift_51 : decode cX9_lift 51 = .ok (.iadd, 1) := by decide +kernel
theorem dX9_lift_52 : decode cX9_lift 52 = .ok (.iload_n 2, 1) := by decide +kernel
theorem dX9_lift_53 : decode cX9_lift 53 = .ok (.iastore, 1) := by decide +kernel
theorem dX9_lift_54 : decode cX9_lift 54 = .ok (.iload_n 3, 1) := by decide +kernel
theorem dX9_lift_55 : decode cX9_lift 55 = .ok (.ireturn, 1) := by decide +kernel
theorem dX9_died_0 : decode cX9_died 0 = .ok (.aload_n 0, 1) := by decide +kernel
theorem dX9_died_1 : decode cX9_died 1 = .ok (.iconst 0, 1) := by decide +kernel
theorem dX9_died_2 : decode cX9_died 2 = .ok (.putfield 85, 3) := by decide +kernel
theorem dX9_died_5 : decode cX9_died 5 = .ok (.aload_n 0, 1) := by decide +kernel
theorem dX9_died_6 : decode cX9_died 6 = .ok (.iload_n 1, 1) := by decide +kernel
theorem dX9_died_7 : decode cX9_died 7 = .ok (.invokevirtual 331, 3) := by decide +kernel
theorem dX9_died_10 : decode cX9_died 10 = .ok (.ifCond .eq 32, 3) := by decide +kernel
theorem dX9_died_13 : decode cX9_died 13 = .ok (.iload_n 2, 1) := by decide +kernel
theorem dX9_died_14 : decode cX9_died 14 = .ok (.i2l, 1) := by decide +kernel
theorem dX9_died_15 : decode cX9_died 15 = .ok (.ldc2_w 376, 3) := by decide +kernel
theorem dX9_died_18 : decode cX9_died 18 = .ok (.ldc2_w 129, 3) := by decide +kernel
theorem dX9_died_21 : decode cX9_died 21 = .ok (.invokestatic 123, 3) := by decide +kernel
theorem dX9_died_24 : decode cX9_died 24 = .ok (.ifCond .eq 18, 3) := by decide +kernel
theorem dX9_died_27 : decode cX9_died 27 = .ok (.iload_n 2, 1) := by decide +kernel
theorem dX9_died_28 : decode cX9_died 28 = .ok (.iconst (-1), 1) := by decide +kernel
theorem dX9_died_29 : decode cX9_died 29 = .ok (.if_icmp .eq 16, 3) := by decide +kernel
theorem dX9_died_32 : decode cX9_died 32 = .ok (.iload_n 2, 1) := by decide +kernel
theorem dX9_died_33 : decode cX9_died 33 = .ok (.aload_n 0, 1) := by decide +kernel
theorem dX9_died_34 : decode cX9_died 34 = .ok (.getfield 30, 3) := by decide +kernel
theorem dX9_died_37 : decode cX9_died 37 = .ok (.iload_n 1, 1) := by decide +kernel
theorem dX9_died_38 : decode cX9_died 38 = .ok (.iaload, 1) := by decide +kernel
theorem dX9_died_39 : decode cX9_died 39 = .ok (.if_icmp .ge 6, 3) := by decide +kernel
theorem dX9_died_42 : decode cX9_died 42 = .ok (.bipush (-2), 2) := by decide +kernel
theorem dX9_died_44 : decode cX9_died 44 = .ok (.ireturn, 1) := by decide +kernel
theorem dX9_died_45 : decode cX9_died 45 = .ok (.aload_n 0, 1) := by decide +kernel
theorem dX9_died_46 : decode cX9_died 46 = .ok (.invokevirtual 388, 3) := by decide +kernel
theorem dX9_died_49 : decode cX9_died 49 = .ok (.aload_n 0, 1) := by decide +kernel
theorem dX9_died_50 : decode cX9_died 50 = .ok (.getfield 70, 3) := by decide +kernel
theorem dX9_died_53 : decode cX9_died 53 = .ok (.bipush 24, 2) := by decide +kernel
theorem dX9_died_55 : decode cX9_died 55 = .ok (.iload_n 1, 1) := by decide +kernel
theorem dX9_died_56 : decode cX9_died 56 = .ok (.iadd, 1) := by decide +kernel
theorem dX9_died_57 : decode cX9_died 57 = .ok (.iaload, 1) := by decide +kernel
theorem dX9_died_58 : decode cX9_died 58 = .ok (.istore_n 3, 1) := by decide +kernel
theorem dX9_died_59 : decode cX9_died 59 = .ok (.aload_n 0, 1) := by decide +kernel
theorem dX9_died_60 : decode cX9_died 60 = .ok (.getfield 70, 3) := by decide +kernel
theorem dX9_died_63 : decode cX9_died 63 = .ok (.bipush 24, 2) := by decide +kernel
theorem dX9_died_65 : decode cX9_died 65 = .ok (.iload_n 1, 1) := by decide +kernel
theorem dX9_died_66 : decode cX9_died 66 = .ok (.iadd, 1) := by decide +kernel
theorem dX9_died_67 : decode cX9_died 67 = .ok (.iload_n 2, 1) := by decide +kernel
theorem dX9_died_68 : decode cX9_died 68 = .ok (.iastore, 1) := by decide +kernel
theorem dX9_died_69 : decode cX9_died 69 = .ok (.iload_n 3, 1) := by decide +kernel
theorem dX9_died_70 : decode cX9_died 70 = .ok (.ireturn, 1) := by decide +kernel
theorem dX9_put_0 : decode cX9_put 0 = .ok (.aload_n 0, 1) := by decide +kernel
theorem dX9_put_1 : decode cX9_put 1 = .ok (.iconst 0, 1) := by decide +kernel
theorem dX9_put_2 : decode cX9_put 2 = .ok (.putfield 85, 3) := by decide +kernel
theorem dX9_put_5 : decode cX9_put 5 = .ok (.aload_n 0, 1) := by decide +kernel
theorem dX9_put_6 : decode cX9_put 6 = .ok (.iload_n 1, 1) := by decide +kernel
theorem dX9_put_7 : decode cX9_put 7 = .ok (.invokevirtual 322, 3) := by decide +kernel
theorem dX9_put_10 : decode cX9_put 10 = .ok (.ifCond .eq 25, 3) := by decide +kernel
theorem dX9_put_13 : decode cX9_put 13 = .ok (.iload_n 2, 1) := by decide +kernel
theorem dX9_put_14 : decode cX9_put 14 = .ok (.iconst (-1), 1) := by decide +kernel
theorem dX9_put_15 : decode cX9_put 15 = .ok (.if_icmp .eq 23, 3) := by decide +kernel
theorem dX9_put_18 : decode cX9_put 18 = .ok (.aload_n 0, 1) := by decide +kernel
theorem dX9_put_19 : decode cX9_put 19 = .ok (.iload_n 2, 1) := by decide +kernel
theorem dX9_put_20 : decode cX9_put 20 = .ok (.invokevirtual 322, 3) := by decide +kernel
theorem dX9_put_23 : decode cX9_put 23 = .ok (.ifCond .eq 12, 3) := by decide +kernel
theorem dX9_put_26 : decode cX9_put 26 = .ok (.aload_n 0, 1) := by decide +kernel
theorem dX9_put_27 : decode cX9_put 27 = .ok (.iload_n 2, 1) := by decide +kernel
theorem dX9_put_28 : decode cX9_put 28 = .ok (.iload_n 1, 1) := by decide +kernel
theorem dX9_put_29 : decode cX9_put 29 = .ok (.invokevirtual 313, 3) := by decide +kernel
theorem dX9_put_32 : decode cX9_put 32 = .ok (.ifCond .eq 6, 3) := by decide +kernel
theorem dX9_put_35 : decode cX9_put 35 = .ok (.bipush (-2), 2) := by decide +kernel
theorem dX9_put_37 : decode cX9_put 37 = .ok (.ireturn, 1) := by decide +kernel
theorem dX9_put_38 : decode cX9_put 38 = .ok (.aload_n 0, 1) := by decide +kernel
theorem dX9_put_39 : decode cX9_put 39 = .ok (.invokevirtual 388, 3) := by decide +kernel
theorem dX9_put_42 : decode cX9_put 42 = .ok (.aload_n 0, 1) := by decide +kernel
theorem dX9_put_43 : decode cX9_put 43 = .ok (.getfield 70, 3) := by decide +kernel
theorem dX9_put_46 : decode cX9_put 46 = .ok (.iload_n 1, 1) := by decide +kernel
theorem dX9_put_47 : decode cX9_put 47 = .ok (.iaload, 1) := by decide +kernel
theorem dX9_put_48 : decode cX9_put 48 = .ok (.istore_n 3, 1) := by decide +kernel
theorem dX9_put_49 : decode cX9_put 49 = .ok (.aload_n 0, 1) := by decide +kernel
theorem dX9_put_50 : decode cX9_put 50 = .ok (.getfield 70, 3) := by decide +kernel
theorem dX9_put_53 : decode cX9_put 53 = .ok (.iload_n 1, 1) := by decide +kernel
theorem dX9_put_54 : decode cX9_put 54 = .ok (.iload_n 2, 1) := by decide +kernel
theorem dX9_put_55 : decode cX9_put 55 = .ok (.iastore, 1) := by decide +kernel
theorem dX9_put_56 : decode cX9_put 56 = .ok (.iload_n 3, 1) := by decide +kernel
theorem dX9_put_57 : decode cX9_put 57 = .ok (.ireturn, 1) := by decide +kernel
theorem dX9_undo_0 : decode cX9_undo 0 = .ok (.aload_n 0, 1) := by decide +kernel
theorem dX9_undo_1 : decode cX9_undo 1 = .ok (.iconst 0, 1) := by decide +kernel
theorem dX9_undo_2 : decode cX9_undo 2 = .ok (.putfield 85, 3) := by decide +kernel
theorem dX9_undo_5 : decode cX9_undo 5 = .ok (.aload_n 0, 1) := by decide +kernel
theorem dX9_undo_6 : decode cX9_undo 6 = .ok (.getfield 310, 3) := by decide +kernel
theorem dX9_undo_9 : decode cX9_undo 9 = .ok (.ifCond .ne 5, 3) := by decide +kernel
theorem dX9_undo_12 : decode cX9_undo 12 = .ok (.iconst (-1), 1) := by decide +kernel
theorem dX9_undo_13 : decode cX9_undo 13 = .ok (.ireturn, 1) := by decide +kernel
theorem dX9_undo_14 : decode cX9_undo 14 = .ok (.aload_n 0, 1) := by decide +kernel
theorem dX9_undo_15 : decode cX9_undo 15 = .ok (.dup, 1) := by decide +kernel
theorem dX9_undo_16 : decode cX9_undo 16 = .ok (.getfield 310, 3) := by decide +kernel
theorem dX9_undo_19 : decode cX9_undo 19 = .ok (.iconst 1, 1) := by decide +kernel
theorem dX9_undo_20 : decode cX9_undo 20 = .ok (.isub, 1) := by decide +kernel
theorem dX9_undo_21 : decode cX9_undo 21 = .ok (.putfield 310, 3) := by decide +kernel
theorem dX9_undo_24 : decode cX9_undo 24 = .ok (.iconst 0, 1) := by decide +kernel
theorem dX9_undo_25 : decode cX9_undo 25 = .ok (.istore_n 1, 1) := by decide +kernel
theorem dX9_undo_26 : decode cX9_undo 26 = .ok (.iload_n 1, 1) := by decide +kernel
theorem dX9_undo_27 : decode cX9_undo 27 = .ok (.sipush 176, 3) := by decide +kernel
theorem dX9_undo_30 : decode cX9_undo 30 = .ok (.if_icmp .ge 30, 3) := by decide +kernel
theorem dX9_undo_33 : decode cX9_undo 33 = .ok (.aload_n 0, 1) := by decide +kernel
theorem dX9_undo_34 : decode cX9_undo 34 = .ok (.getfield 70, 3) := by decide +kernel
theorem dX9_undo_37 : decode cX9_undo 37 = .ok (.iload_n 1, 1) := by decide +kernel
theorem dX9_undo_38 : decode cX9_undo 38 = .ok (.aload_n 0, 1) := by decide +kernel
theorem dX9_undo_39 : decode cX9_undo 39 = .ok (.getfield 73, 3) := by decide +kernel
theorem dX9_undo_42 : decode cX9_undo 42 = .ok (.sipush 176, 3) := by decide +kernel
theorem dX9_undo_45 : decode cX9_undo 45 = .ok (.aload_n 0, 1) := by decide +kernel
theorem dX9_undo_46 : decode cX9_undo 46 = .ok (.getfield 310, 3) := by decide +kernel
theorem dX9_undo_49 : decode cX9_undo 49 = .ok (.imul, 1) := by decide +kernel
theorem dX9_undo_50 : decode cX9_undo 50 = .ok (.iload_n 1, 1) := by decide +kernel
theorem dX9_undo_51 : decode cX9_undo 51 = .ok (.iadd, 1) := by decide +kernel
theorem dX9_undo_52 : decode cX9_undo 52 = .ok (.iaload, 1) := by decide +kernel
theorem dX9_undo_53 : decode cX9_undo 53 = .ok (.iastore, 1) := by decide +kernel
theorem dX9_undo_54 : decode cX9_undo 54 = .ok (.iinc 1 1, 3) := by decide +kernel
theorem dX9_undo_57 : decode cX9_undo 57 = .ok (.goto (-31), 3) := by decide +kernel
theorem dX9_undo_60 : decode cX9_undo 60 = .ok (.aload_n 0, 1) := by decide +kernel
theorem dX9_undo_61 : decode cX9_undo 61 = .ok (.getfield 310, 3) := by decide +kernel
theorem dX9_undo_64 : decode cX9_undo 64 = .ok (.ireturn, 1) := by decide +kernel
theorem dX9_keep_0 : decode cX9_keep 0 = .ok (.aload_n 0, 1) := by decide +kernel
theorem dX9_keep_1 : decode cX9_keep 1 = .ok (.iconst 0, 1) := by decide +kernel
theorem dX9_keep_2 : decode cX9_keep 2 = .ok (.putfield 85, 3) := by decide +kernel
theorem dX9_keep_5 : decode cX9_keep 5 = .ok (.iload_n 1, 1) := by decide +kernel
theorem dX9_keep_6 : decode cX9_keep 6 = .ok (.i2l, 1) := by decide +kernel
theorem dX9_keep_7 : decode cX9_keep 7 = .ok (.lconst 0, 1) := by decide +kernel
theorem dX9_keep_8 : decode cX9_keep 8 = .ok (.lconst 1, 1) := by decide +kernel
theorem dX9_keep_9 : decode cX9_keep 9 = .ok (.invokestatic 123, 3) := by decide +kernel
theorem dX9_keep_12 : decode cX9_keep 12 = .ok (.ifCond .eq 16, 3) := by decide +kernel
theorem dX9_keep_15 : decode cX9_keep 15 = .ok (.iload_n 2, 1) := by decide +kernel
theorem dX9_keep_16 : decode cX9_keep 16 = .ok (.ifCond .eq 14, 3) := by decide +kernel
theorem dX9_keep_19 : decode cX9_keep 19 = .ok (.aload_n 0, 1) := by decide +kernel
theorem dX9_keep_20 : decode cX9_keep 20 = .ok (.getfield 79, 3) := by decide +kernel
theorem dX9_keep_23 : decode cX9_keep 23 = .ok (.iload_n 1, 1) := by decide +kernel
theorem dX9_keep_24 : decode cX9_keep 24 = .ok (.baload, 1) := by decide +kernel
theorem dX9_keep_25 : decode cX9_keep 25 = .ok (.ifCond .ne 5, 3) := by decide +kernel
theorem dX9_keep_28 : decode cX9_keep 28 = .ok (.iconst 0, 1) := by decide +kernel
theorem dX9_keep_29 : decode cX9_keep 29 = .ok (.ireturn, 1) := by decide +kernel
theorem dX9_keep_30 : decode cX9_keep 30 = .ok (.iload_n 2, 1) := by decide +kernel
theorem dX9_keep_31 : decode cX9_keep 31 = .ok (.ifCond .eq 43, 3) := by decide +kernel
theorem dX9_keep_34 : decode cX9_keep 34 = .ok (.iconst 0, 1) := by decide +kernel
theorem dX9_keep_35 : decode cX9_keep 35 = .ok (.istore_n 3, 1) := by decide +kernel
theorem dX9_keep_36 : decode cX9_keep 36 = .ok (.iload_n 3, 1) := by decide +kernel
theorem dX9_keep_37 : decode cX9_keep 37 = .ok (.sipush 176, 3) := by decide +kernel
theorem dX9_keep_40 : decode cX9_keep 40 = .ok (.if_icmp .ge 27, 3) := by decide +kernel
theorem dX9_keep_43 : decode cX9_keep 43 = .ok (.aload_n 0, 1) := by decide +kernel
theorem dX9_keep_44 : decode cX9_keep 44 = .ok (.getfield 70, 3) := by decide +kernel
theorem dX9_keep_47 : decode cX9_keep 47 = .ok (.iload_n 3, 1) := by decide +kernel
theorem dX9_keep_48 : decode cX9_keep 48 = .ok (.aload_n 0, 1) := by decide +kernel
theorem dX9_keep_49 : decode cX9_keep 49 = .ok (.getfield 76, 3) := by decide +kernel
theorem dX9_keep_52 : decode cX9_keep 52 = .ok (.sipush 176, 3) := by decide +kernel
theorem dX9_keep_55 : decode cX9_keep 55 = .ok (.iload_n 1, 1) := by decide +kernel
theorem dX9_keep_56 : decode cX9_keep 56 = .ok (.imul, 1) := by decide +kernel
theorem dX9_keep_57 : decode cX9_keep 57 = .ok (.iload_n 3, 1) := by decide +kernel
theorem dX9_keep_58 : decode cX9_keep 58 = .ok (.iadd, 1) := by decide +kernel
theorem dX9_keep_59 : decode cX9_keep 59 = .ok (.iaload, 1) := by decide +kernel
theorem dX9_keep_60 : decode cX9_keep 60 = .ok (.iastore, 1) := by decide +kernel
theorem dX9_keep_61 : decode cX9_keep 61 = .ok (.iinc 3 1, 3) := by decide +kernel
theorem dX9_keep_64 : decode cX9_keep 64 = .ok (.goto (-28), 3) := by decide +kernel
theorem dX9_keep_67 : decode cX9_keep 67 = .ok (.aload_n 0, 1) := by decide +kernel
theorem dX9_keep_68 : decode cX9_keep 68 = .ok (.iconst 0, 1) := by decide +kernel
theorem dX9_keep_69 : decode cX9_keep 69 = .ok (.putfield 310, 3) := by decide +kernel
theorem dX9_keep_72 : decode cX9_keep 72 = .ok (.iconst 1, 1) := by decide +kernel
theorem dX9_keep_73 : decode cX9_keep 73 = .ok (.ireturn, 1) := by decide +kernel
theorem dX9_keep_74 : decode cX9_keep 74 = .ok (.iconst 0, 1) := by decide +kernel
theorem dX9_keep_75 : decode cX9_keep 75 = .ok (.istore_n 3, 1) := by decide +kernel
theorem dX9_keep_76 : decode cX9_keep 76 = .ok (.iload_n 3, 1) := by decide +kernel
theorem dX9_keep_77 : decode cX9_keep 77 = .ok (.sipush 176, 3) := by decide +kernel
theorem dX9_keep_80 : decode cX9_keep 80 = .ok (.if_icmp .ge 27, 3) := by decide +kernel
theorem dX9_keep_83 : decode cX9_keep 83 = .ok (.aload_n 0, 1) := by decide +kernel
theorem dX9_keep_84 : decode cX9_keep 84 = .ok (.getfield 76, 3) := by decide +kernel
theorem dX9_keep_87 : decode cX9_keep 87 = .ok (.sipush 176, 3) := by decide +kernel
theorem dX9_keep_90 : decode cX9_keep 90 = .ok (.iload_n 1, 1) := by decide +kernel
theorem dX9_keep_91 : decode cX9_keep 91 = .ok (.imul, 1) := by decide +kernel
theorem dX9_keep_92 : decode cX9_keep 92 = .ok (.iload_n 3, 1) := by decide +kernel
theorem dX9_keep_93 : decode cX9_keep 93 = .ok (.iadd, 1) := by decide +kernel
theorem dX9_keep_94 : decode cX9_keep 94 = .ok (.aload_n 0, 1) := by decide +kernel
theorem dX9_keep_95 : decode cX9_keep 95 = .ok (.getfield 70, 3) := by decide +kernel
theorem dX9_keep_98 : decode cX9_keep 98 = .ok (.iload_n 3, 1) := by decide +kernel
theorem dX9_keep_99 : decode cX9_keep 99 = .ok (.iaload, 1) := by decide +kernel
theorem dX9_keep_100 : decode cX9_keep 100 = .ok (.iastore, 1) := by decide +kernel
theorem dX9_keep_101 : decode cX9_keep 101 = .ok (.iinc 3 1, 3) := by decide +kernel
theorem dX9_keep_104 : decode cX9_keep 104 = .ok (.goto (-28), 3) := by decide +kernel
theorem dX9_keep_107 : decode cX9_keep 107 = .ok (.aload_n 0, 1) := by decide +kernel
theorem dX9_keep_108 : decode cX9_keep 108 = .ok (.getfield 79, 3) := by decide +kernel
theorem dX9_keep_111 : decode cX9_keep 111 = .ok (.iload_n 1, 1) := by decide +kernel
theorem dX9_keep_112 : decode cX9_keep 112 = .ok (.iconst 1, 1) := by decide +kernel
theorem dX9_keep_113 : decode cX9_keep 113 = .ok (.bastore, 1) := by decide +kernel
theorem dX9_keep_114 : decode cX9_keep 114 = .ok (.iconst 1, 1) := by decide +kernel
theorem dX9_keep_115 : decode cX9_keep 115 = .ok (.ireturn, 1) := by decide +kernel
theorem dX9_count_0 : decode cX9_count 0 = .ok (.aload_n 0, 1) := by decide +kernel
theorem dX9_count_1 : decode cX9_count 1 = .ok (.iconst 0, 1) := by decide +kernel
theorem dX9_count_2 : decode cX9_count 2 = .ok (.putfield 85, 3) := by decide +kernel
theorem dX9_count_5 : decode cX9_count 5 = .ok (.iload_n 1, 1) := by decide +kernel
theorem dX9_count_6 : decode cX9_count 6 = .ok (.tableswitch 94 0 7 #[46, 53, 60, 67, 74, 79, 84, 89], 46) := by decide +kernel
theorem dX9_count_52 : decode cX9_count 52 = .ok (.aload_n 0, 1) := by decide +kernel
theorem dX9_count_53 : decode cX9_count 53 = .ok (.getfield 20, 3) := by decide +kernel
theorem dX9_count_56 : decode cX9_count 56 = .ok (.iconst 0, 1) := by decide +kernel
theorem dX9_count_57 : decode cX9_count 57 = .ok (.iaload, 1) := by decide +kernel
theorem dX9_count_58 : decode cX9_count 58 = .ok (.ireturn, 1) := by decide +kernel
theorem dX9_count_59 : decode cX9_count 59 = .ok (.aload_n 0, 1) := by decide +kernel
theorem dX9_count_60 : decode cX9_count 60 = .ok (.getfield 13, 3) := by decide +kernel
theorem dX9_count_63 : decode cX9_count 63 = .ok (.iconst 0, 1) := by decide +kernel
theorem dX9_count_64 : decode cX9_count 64 = .ok (.iaload, 1) := by decide +kernel
theorem dX9_count_65 : decode cX9_count 65 = .ok (.ireturn, 1) := by decide +kernel
theorem dX9_count_66 : decode cX9_count 66 = .ok (.aload_n 0, 1) := by decide +kernel
theorem dX9_count_67 : decode cX9_count 67 = .ok (.getfield 17, 3) := by decide +kernel
theorem dX9_count_70 : decode cX9_count 70 = .ok (.iconst 0, 1) := by decide +kernel
theorem dX9_count_71 : decode cX9_count 71 = .ok (.iaload, 1) := by decide +kernel
theorem dX9_count_72 : decode cX9_count 72 = .ok (.ireturn, 1) := by decide +kernel
theorem dX9_count_73 : decode cX9_count 73 = .ok (.aload_n 0, 1) := by decide +kernel
theorem dX9_count_74 : decode cX9_count 74 = .ok (.getfield 23, 3) := by decide +kernel
theorem dX9_count_77 : decode cX9_count 77 = .ok (.iconst 0, 1) := by decide +kernel
theorem dX9_count_78 : decode cX9_count 78 = .ok (.iaload, 1) := by decide +kernel
theorem dX9_count_79 : decode cX9_count 79 = .ok (.ireturn, 1) := by decide +kernel
theorem dX9_count_80 : decode cX9_count 80 = .ok (.aload_n 0, 1) := by decide +kernel
theorem dX9_count_81 : decode cX9_count 81 = .ok (.invokevirtual 391, 3) := by decide +kernel
theorem dX9_count_84 : decode cX9_count 84 = .ok (.ireturn, 1) := by decide +kernel
theorem dX9_count_85 : decode cX9_count 85 = .ok (.aload_n 0, 1) := by decide +kernel
theorem dX9_count_86 : decode cX9_count 86 = .ok (.invokevirtual 394, 3) := by decide +kernel
theorem dX9_count_89 : decode cX9_count 89 = .ok (.ireturn, 1) := by decide +kernel
theorem dX9_count_90 : decode cX9_count 90 = .ok (.aload_n 0, 1) := by decide +kernel
theorem dX9_count_91 : decode cX9_count 91 = .ok (.getfield 310, 3) := by decide +kernel
theorem dX9_count_94 : decode cX9_count 94 = .ok (.ireturn, 1) := by decide +kernel
theorem dX9_count_95 : decode cX9_count 95 = .ok (.aload_n 0, 1) := by decide +kernel
theorem dX9_count_96 : decode cX9_count 96 = .ok (.getfield 142, 3) := by decide +kernel
theorem dX9_count_99 : decode cX9_count 99 = .ok (.ireturn, 1) := by decide +kernel
theorem dX9_count_100 : decode cX9_count 100 = .ok (.iconst (-1), 1) := by decide +kernel
theorem dX9_count_101 : decode cX9_count 101 = .ok (.ireturn, 1) := by decide +kernel
theorem qw_648 : (Cond.constantLong RX9 384 (-50) : Cond) ∈ TBL := List.mem_of_getElem? (i := 897) (by decide +kernel)
theorem qw_649 : (Cond.constantLong RX9 386 (50) : Cond) ∈ TBL := List.mem_of_getElem? (i := 898) (by decide +kernel)
theorem qw_650 : (Cond.code yX9_keeps cX9_keeps 2 none : Cond) ∈ TBL := List.mem_of_getElem? (i := 902) (by decide +kernel)
theorem qw_651 : (Cond.methodLink RX9 388 yX9_keeps : Cond) ∈ TBL := List.mem_of_getElem? (i := 899) (by decide +kernel)
theorem qw_652 : (Cond.instanceMethod yX9_keeps : Cond) ∈ TBL := List.mem_of_getElem? (i := 900) (by decide +kernel)
theorem qw_653 : (Cond.selects RX9 yX9_keeps yX9_keeps : Cond) ∈ TBL := List.mem_of_getElem? (i := 901) (by decide +kernel)
theorem qw_654 : (Cond.fieldLink RX9 76 "ClosedUntilModel" "kept" "[I" : Cond) ∈ TBL := List.mem_of_getElem? (i := 187) (by decide +kernel)
theorem qw_655 : (Cond.code yX9_reviews cX9_reviews 3 (some .int) : Cond) ∈ TBL := List.mem_of_getElem? (i := 970) (by decide +kernel)
theorem qw_656 : (Cond.methodLink RX9 391 yX9_reviews : Cond) ∈ TBL := List.mem_of_getElem? (i := 967) (by decide +kernel)
theorem qw_657 : (Cond.instanceMethod yX9_reviews : Cond) ∈ TBL := List.mem_of_getElem? (i := 968) (by decide +kernel)
theorem qw_658 : (Cond.selects RX9 yX9_reviews yX9_reviews : Cond) ∈ TBL := List.mem_of_getElem? (i := 969) (by decide +kernel)
theorem qw_659 : (Cond.code yX9_lifted cX9_lifted 3 (some .int) : Cond) ∈ TBL := List.mem_of_getElem? (i := 974) (by decide +kernel)
theorem qw_660 : (Cond.methodLink RX9 394 yX9_lifted : Cond) ∈ TBL := List.mem_of_getElem? (i := 971) (by decide +kernel)
theorem qw_661 : (Cond.instanceMethod yX9_lifted : Cond) ∈ TBL := List.mem_of_getElem? (i := 972) (by decide +kernel)
theorem qw_662 : (Cond.selects RX9 yX9_lifted yX9_lifted : Cond) ∈ TBL := List.mem_of_getElem? (i := 973) (by decide +kernel)
theorem rgP5_54fd6a0 {D : va_G} {cl : List vw_C} {H : Heap} {c0 c1 c2 c3 c4 : Nat × va_E} (h : va_P D cl ([c0, c1, c2, c3, c4]) H) : va_P D cl ([c0, c2]) H := h.sub (ws' := [c0, c2]) [0, 2] rfl
theorem rgP5_93b6ef8 {D : va_G} {cl : List vw_C} {H : Heap} {c0 c1 c2 c3 c4 : Nat × va_E} (h : va_P D cl ([c0, c1, c2, c3, c4]) H) : va_P D cl ([c0, c3, c4]) H := h.sub (ws' := [c0, c3, c4]) [0, 3, 4] rfl
theorem rgK4_30a4728 {D : va_G} {cl : List vw_C} {U : State} {t0 t1 t2 t3 : ClassId × FieldType} (h : va_K D cl [t0, t1, t2, t3] U) : va_K D cl [t2, t3] U := h.sub (tys' := [t2, t3]) [2, 3] rfl
theorem rgD5_79bae6c {A : Nat → Prop} {c0 c1 c2 c3 c4 : Nat × va_E} (h : va_D A ([c0, c1, c2, c3, c4])) : va_D A ([c0, c3, c4]) := h.sub (ws' := [c0, c3, c4]) [0, 3, 4] (by decide +kernel) rfl
theorem rgJ5_eb07d49 {A0 : Nat → Prop} {D : va_G} {cl : List vw_C} {H H1 : Heap} {c0 c1 c2 c3 c4 : Nat × va_E} {d0 d1 d2 : Nat × va_E} (hP : va_P D cl ([c0, c1, c2, c3, c4]) H) (hD : va_D A0 ([c0, c1, c2, c3, c4])) (hk : ∀ q : Nat, q < H.size → ¬ va_A ([c0, c3, c4]) H.size q → H1[q]? = H[q]?) (hF : ∀ q, va_A ([c0, c3, c4]) H.size q → A0 q) (hP1 : va_P D cl ([d0, d1, d2]) H1) (hD1 : va_D (va_A ([c0, c3, c4]) H.size) ([d0, d1, d2])) : va_P D cl ([d0, c1, c2, d1, d2]) H1 ∧ va_D A0 ([d0, c1, c2, d1, d2]) := by
  obtain ⟨h1, h2⟩ := va_join (ws := [c0, c1, c2, c3, c4]) (wc := [c0, c3, c4]) (wr := [c1, c2]) (w1 := [d0, d1, d2]) hP hD [0, 3, 4] [1, 2] rfl rfl (by decide +kernel) (by decide +kernel) hk hF hP1 hD1
  exact ⟨va_P.sub (ws := [c1, c2, d0, d1, d2]) (ws' := [d0, c1, c2, d1, d2]) h1 [2, 0, 1, 3, 4] rfl, va_D.sub (ws := [c1, c2, d0, d1, d2]) (ws' := [d0, c1, c2, d1, d2]) h2 [2, 0, 1, 3, 4] (by decide +kernel) rfl⟩
theorem rgP6_1d92626 {D : va_G} {cl : List vw_C} {H : Heap} {c0 c1 c2 c3 c4 c5 : Nat × va_E} (h : va_P D cl ([c0, c1, c2, c3, c4, c5]) H) : va_P D cl ([]) H := h.sub (ws' := []) [] rfl
theorem rgP6_2117603 {D : va_G} {cl : List vw_C} {H : Heap} {c0 c1 c2 c3 c4 c5 : Nat × va_E} (h : va_P D cl ([c0, c1, c2, c3, c4, c5]) H) : va_P D cl ([c0, c4, c5]) H := h.sub (ws' := [c0, c4, c5]) [0, 4, 5] rfl
theorem rgK5_99abf79 {D : va_G} {cl : List vw_C} {U : State} {t0 t1 t2 t3 t4 : ClassId × FieldType} (h : va_K D cl [t0, t1, t2, t3, t4] U) : va_K D cl [t3, t4] U := h.sub (tys' := [t3, t4]) [3, 4] rfl
theorem rgD6_1a65f3b {A : Nat → Prop} {c0 c1 c2 c3 c4 c5 : Nat × va_E} (h : va_D A ([c0, c1, c2, c3, c4, c5])) : va_D A ([c0, c4, c5]) := h.sub (ws' := [c0, c4, c5]) [0, 4, 5] (by decide +kernel) rfl
theorem rgJ6_66256e0 {A0 : Nat → Prop} {D : va_G} {cl : List vw_C} {H H1 : Heap} {c0 c1 c2 c3 c4 c5 : Nat × va_E} {d0 d1 d2 : Nat × va_E} (hP : va_P D cl ([c0, c1, c2, c3, c4, c5]) H) (hD : va_D A0 ([c0, c1, c2, c3, c4, c5])) (hk : ∀ q : Nat, q < H.size → ¬ va_A ([c0, c4, c5]) H.size q → H1[q]? = H[q]?) (hF : ∀ q, va_A ([c0, c4, c5]) H.size q → A0 q) (hP1 : va_P D cl ([d0, d1, d2]) H1) (hD1 : va_D (va_A ([c0, c4, c5]) H.size) ([d0, d1, d2])) : va_P D cl ([d0, c1, c2, c3, d1, d2]) H1 ∧ va_D A0 ([d0, c1, c2, c3, d1, d2]) := by
  obtain ⟨h1, h2⟩ := va_join (ws := [c0, c1, c2, c3, c4, c5]) (wc := [c0, c4, c5]) (wr := [c1, c2, c3]) (w1 := [d0, d1, d2]) hP hD [0, 4, 5] [1, 2, 3] rfl rfl (by decide +kernel) (by decide +kernel) hk hF hP1 hD1
  exact ⟨va_P.sub (ws := [c1, c2, c3, d0, d1, d2]) (ws' := [d0, c1, c2, c3, d1, d2]) h1 [3, 0, 1, 2, 4, 5] rfl, va_D.sub (ws := [c1, c2, c3, d0, d1, d2]) (ws' := [d0, c1, c2, c3, d1, d2]) h2 [3, 0, 1, 2, 4, 5] (by decide +kernel) rfl⟩
theorem rgS6_bfeb194 {A : Nat → Prop} {D : va_G} {cl : List vw_C} {H : Heap} {c0 c1 c2 c3 c4 c5 : Nat × va_E} {d e : Nat × va_E} (hP : va_P D cl (([c0, c1, c2, c3, c4, c5]).set 4 d) H) (hD : va_D A (([c0, c1, c2, c3, c4, c5]).set 4 d)) (h : d = e) : va_P D cl ([c0, c1, c2, c3, e, c5]) H ∧ va_D A ([c0, c1, c2, c3, e, c5]) := by subst h; exact ⟨hP, hD⟩
theorem rgP4_d251672 {D : va_G} {cl : List vw_C} {H : Heap} {c0 c1 c2 c3 : Nat × va_E} (h : va_P D cl ([c0, c1, c2, c3]) H) : va_P D cl ([c0, c1]) H := h.sub (ws' := [c0, c1]) [0, 1] rfl
theorem rgP4_bd98927 {D : va_G} {cl : List vw_C} {H : Heap} {c0 c1 c2 c3 : Nat × va_E} (h : va_P D cl ([c0, c1, c2, c3]) H) : va_P D cl ([c0, c2, c3]) H := h.sub (ws' := [c0, c2, c3]) [0, 2, 3] rfl
theorem rgK3_2c9a5f5 {D : va_G} {cl : List vw_C} {U : State} {t0 t1 t2 : ClassId × FieldType} (h : va_K D cl [t0, t1, t2] U) : va_K D cl [t1, t2] U := h.sub (tys' := [t1, t2]) [1, 2] rfl
theorem rgD4_5a0b76e {A : Nat → Prop} {c0 c1 c2 c3 : Nat × va_E} (h : va_D A ([c0, c1, c2, c3])) : va_D A ([c0, c2, c3]) := h.sub (ws' := [c0, c2, c3]) [0, 2, 3] (by decide +kernel) rfl
theorem rgJ4_0399ef6 {A0 : Nat → Prop} {D : va_G} {cl : List vw_C} {H H1 : Heap} {c0 c1 c2 c3 : Nat × va_E} {d0 d1 d2 : Nat × va_E} (hP : va_P D cl ([c0, c1, c2, c3]) H) (hD : va_D A0 ([c0, c1, c2, c3])) (hk : ∀ q : Nat, q < H.size → ¬ va_A ([c0, c2, c3]) H.size q → H1[q]? = H[q]?) (hF : ∀ q, va_A ([c0, c2, c3]) H.size q → A0 q) (hP1 : va_P D cl ([d0, d1, d2]) H1) (hD1 : va_D (va_A ([c0, c2, c3]) H.size) ([d0, d1, d2])) : va_P D cl ([d0, c1, d1, d2]) H1 ∧ va_D A0 ([d0, c1, d1, d2]) := by
  obtain ⟨h1, h2⟩ := va_join (ws := [c0, c1, c2, c3]) (wc := [c0, c2, c3]) (wr := [c1]) (w1 := [d0, d1, d2]) hP hD [0, 2, 3] [1] rfl rfl (by decide +kernel) (by decide +kernel) hk hF hP1 hD1
  exact ⟨va_P.sub (ws := [c1, d0, d1, d2]) (ws' := [d0, c1, d1, d2]) h1 [1, 0, 2, 3] rfl, va_D.sub (ws := [c1, d0, d1, d2]) (ws' := [d0, c1, d1, d2]) h2 [1, 0, 2, 3] (by decide +kernel) rfl⟩
theorem rgS6_1cc86d4 {A : Nat → Prop} {D : va_G} {cl : List vw_C} {H : Heap} {c0 c1 c2 c3 c4 c5 : Nat × va_E} {d e : Nat × va_E} (hP : va_P D cl (([c0, c1, c2, c3, c4, c5]).set 5 d) H) (hD : va_D A (([c0, c1, c2, c3, c4, c5]).set 5 d)) (h : d = e) : va_P D cl ([c0, c1, c2, c3, c4, e]) H ∧ va_D A ([c0, c1, c2, c3, c4, e]) := by subst h; exact ⟨hP, hD⟩
theorem rgS6_c197770 {A : Nat → Prop} {D : va_G} {cl : List vw_C} {H : Heap} {c0 c1 c2 c3 c4 c5 : Nat × va_E} {d e : Nat × va_E} (hP : va_P D cl (([c0, c1, c2, c3, c4, c5]).set 2 d) H) (hD : va_D A (([c0, c1, c2, c3, c4, c5]).set 2 d)) (h : d = e) : va_P D cl ([c0, c1, e, c3, c4, c5]) H ∧ va_D A ([c0, c1, e, c3, c4, c5]) := by subst h; exact ⟨hP, hD⟩
set_option maxHeartbeats 4000000 in
set_option maxRecDepth 100000 in
theorem k_X9_review (l : Launch) (dC : Nat → ClassId) (dI : Nat → Nat → Nat) (g : Gv) (sz : Nat) (a0 : Nat) (a1 : Int32) (a2 : Int32) (a3 : Int32) (a0_0 : Int32) (a0_1 : Int32) (a0_2 : Int32) (a0_3 : Int32) (a0_4 : Nat) (a0_5 : Int32) (a0_6 : Int32) (a0_7 : Int32) (a0_8 : Int32) (a0_9 : Int32) (a0_10 : Int32) (a0_11 : Int64) (a0_12 : Int32) (a0_13 : Int32) (a0_14 : Int32) (a0_15 : Int32) (a0_16 : Int32) (a0_17 : Int32) (a0_18 : Nat) (a0_19 : Nat) (a0_20 : Nat) (a0_21 : Nat) (a0_22 : Nat) (a0_23 : Nat) (a0_24 : Nat) (a0_25 : Nat) (a0_26 : Nat) (a0_27 : Nat) (a0_28 : Nat) (a0_29 : Nat) (a0_30 : Nat) (a0_31 : Nat) (a0_32 : Nat) (a0_33 : Nat) (a0_34 : Nat) (a0_35 : Nat) (a0_36 : Int64) (a0_37 : Int32) (a0_38 : Nat) (a0_39 : Nat) (a0_40 : Int32) (a0_41 : Nat) (a0_42 : Nat) (a0_43 : Nat) (a0_20_c : ClassId) (a0_20_f : Nat → Int32) (a0_21_c : ClassId) (a0_21_f : Nat → Int32) (a0_38_c : ClassId) (a0_38_f : Nat → Int32) (a0_39_c : ClassId) (a0_39_f : Nat → Int32) (h_a0_5 : 0 ≤ a0_5.toInt ∧ a0_5.toInt ≤ 1000) (h_a0_6 : 0 ≤ a0_6.toInt ∧ a0_6.toInt ≤ 1000) (h_a0_7 : 0 ≤ a0_7.toInt ∧ a0_7.toInt ≤ 1000) (h_a0_8 : 0 ≤ a0_8.toInt ∧ a0_8.toInt ≤ 1000) (h_a0_17 : 0 ≤ a0_17.toInt ∧ a0_17.toInt ≤ 1) (h_a0_37 : (-1) ≤ a0_37.toInt ∧ a0_37.toInt ≤ 23) (h_a0_40 : 0 ≤ a0_40.toInt ∧ a0_40.toInt ≤ 12) (h_a0_20_f : vr 0 24 a0_20_f) (h_a0_21_f : vr 0 12 a0_21_f) (hms : RowOk (a0_20_f 0).toInt a0_38_f 0) (hmu : MU (a0_20_f 0).toInt a0_39_f a0_40) : Met l yX9_review (.code yX9_review cX9_review 6 (some .int) :: TBL) ({ frames := 2, cells := 0, slots := 0, locals := 46 }) (va_Pc [.ref a0, .int a1, .int a2, .int a3] (fun U => U.heap.size = sz ∧ va_P (dC, dI) vwCl [(a0, .inr (8, [.int a0_0, .int a0_1, .int a0_2, .int a0_3, .ref a0_4, .int a0_5, .int a0_6, .int a0_7, .int a0_8, .int a0_9, .int a0_10, .long a0_11, .int a0_12, .int a0_13, .int a0_14, .int a0_15, .int a0_16, .int a0_17, .ref a0_18, .ref a0_19, .ref a0_20, .ref a0_21, .ref a0_22, .ref a0_23, .ref a0_24, .ref a0_25, .ref a0_26, .ref a0_27, .ref a0_28, .ref a0_29, .ref a0_30, .ref a0_31, .ref a0_32, .ref a0_33, .ref a0_34, .ref a0_35, .long a0_36, .int a0_37, .ref a0_38, .ref a0_39, .int a0_40, .ref a0_41, .ref a0_42, .ref a0_43])), (a0_20, .inl (a0_20_c, 2, .inl a0_20_f)), (a0_21, .inl (a0_21_c, 2, .inl a0_21_f)), (a0_38, .inl (a0_38_c, 176, .inl a0_38_f)), (a0_39, .inl (a0_39_c, 2112, .inl a0_39_f))] U.heap ∧ va_K (dC, dI) vwCl [(a0_20_c, .int), (a0_21_c, .int), (a0_38_c, .int), (a0_39_c, .int)] U ∧ va_D (fun _ => True) [(a0, .inr (8, [.int a0_0, .int a0_1, .int a0_2, .int a0_3, .ref a0_4, .int a0_5, .int a0_6, .int a0_7, .int a0_8, .int a0_9, .int a0_10, .long a0_11, .int a0_12, .int a0_13, .int a0_14, .int a0_15, .int a0_16, .int a0_17, .ref a0_18, .ref a0_19, .ref a0_20, .ref a0_21, .ref a0_22, .ref a0_23, .ref a0_24, .ref a0_25, .ref a0_26, .ref a0_27, .ref a0_28, .ref a0_29, .ref a0_30, .ref a0_31, .ref a0_32, .ref a0_33, .ref a0_34, .ref a0_35, .long a0_36, .int a0_37, .ref a0_38, .ref a0_39, .int a0_40, .ref a0_41, .ref a0_42, .ref a0_43])), (a0_20, .inl (a0_20_c, 2, .inl a0_20_f)), (a0_21, .inl (a0_21_c, 2, .inl a0_21_f)), (a0_38, .inl (a0_38_c, 176, .inl a0_38_f)), (a0_39, .inl (a0_39_c, 2112, .inl a0_39_f))] ∧ Ev g (va_A [(a0, .inr (8, [.int a0_0, .int a0_1, .int a0_2, .int a0_3, .ref a0_4, .int a0_5, .int a0_6, .int a0_7, .int a0_8, .int a0_9, .int a0_10, .long a0_11, .int a0_12, .int a0_13, .int a0_14, .int a0_15, .int a0_16, .int a0_17, .ref a0_18, .ref a0_19, .ref a0_20, .ref a0_21, .ref a0_22, .ref a0_23, .ref a0_24, .ref a0_25, .ref a0_26, .ref a0_27, .ref a0_28, .ref a0_29, .ref a0_30, .ref a0_31, .ref a0_32, .ref a0_33, .ref a0_34, .ref a0_35, .long a0_36, .int a0_37, .ref a0_38, .ref a0_39, .int a0_40, .ref a0_41, .ref a0_42, .ref a0_43])), (a0_20, .inl (a0_20_c, 2, .inl a0_20_f)), (a0_21, .inl (a0_21_c, 2, .inl a0_21_f)), (a0_38, .inl (a0_38_c, 176, .inl a0_38_f)), (a0_39, .inl (a0_39_c, 2112, .inl a0_39_f))] sz) U)) (va_Qi (fun (r : Int32) (u : Int32) => u = r) (fun (u : Int32) (t : State) => ∃ (za0_0 : Int32) (za0_40 : Int32) (za0_38_f : Nat → Int32) (za0_39_f : Nat → Int32), (0 ≤ za0_40.toInt ∧ za0_40.toInt ≤ 12) ∧ (RowOk (a0_20_f 0).toInt za0_38_f 0) ∧ (MU (a0_20_f 0).toInt za0_39_f za0_40) ∧ va_P (dC, dI) vwCl [(a0, .inr (8, [.int za0_0, .int a0_1, .int a0_2, .int a0_3, .ref a0_4, .int a0_5, .int a0_6, .int a0_7, .int a0_8, .int a0_9, .int a0_10, .long a0_11, .int a0_12, .int a0_13, .int a0_14, .int a0_15, .int a0_16, .int a0_17, .ref a0_18, .ref a0_19, .ref a0_20, .ref a0_21, .ref a0_22, .ref a0_23, .ref a0_24, .ref a0_25, .ref a0_26, .ref a0_27, .ref a0_28, .ref a0_29, .ref a0_30, .ref a0_31, .ref a0_32, .ref a0_33, .ref a0_34, .ref a0_35, .long a0_36, .int a0_37, .ref a0_38, .ref a0_39, .int za0_40, .ref a0_41, .ref a0_42, .ref a0_43])), (a0_20, .inl (a0_20_c, 2, .inl a0_20_f)), (a0_21, .inl (a0_21_c, 2, .inl a0_21_f)), (a0_38, .inl (a0_38_c, 176, .inl za0_38_f)), (a0_39, .inl (a0_39_c, 2112, .inl za0_39_f))] t.heap ∧ va_K (dC, dI) vwCl [] t ∧ va_D (va_A [(a0, .inr (8, [.int a0_0, .int a0_1, .int a0_2, .int a0_3, .ref a0_4, .int a0_5, .int a0_6, .int a0_7, .int a0_8, .int a0_9, .int a0_10, .long a0_11, .int a0_12, .int a0_13, .int a0_14, .int a0_15, .int a0_16, .int a0_17, .ref a0_18, .ref a0_19, .ref a0_20, .ref a0_21, .ref a0_22, .ref a0_23, .ref a0_24, .ref a0_25, .ref a0_26, .ref a0_27, .ref a0_28, .ref a0_29, .ref a0_30, .ref a0_31, .ref a0_32, .ref a0_33, .ref a0_34, .ref a0_35, .long a0_36, .int a0_37, .ref a0_38, .ref a0_39, .int a0_40, .ref a0_41, .ref a0_42, .ref a0_43])), (a0_20, .inl (a0_20_c, 2, .inl a0_20_f)), (a0_21, .inl (a0_21_c, 2, .inl a0_21_f)), (a0_38, .inl (a0_38_c, 176, .inl a0_38_f)), (a0_39, .inl (a0_39_c, 2112, .inl a0_39_f))] sz) [(a0, .inr (8, [.int za0_0, .int a0_1, .int a0_2, .int a0_3, .ref a0_4, .int a0_5, .int a0_6, .int a0_7, .int a0_8, .int a0_9, .int a0_10, .long a0_11, .int a0_12, .int a0_13, .int a0_14, .int a0_15, .int a0_16, .int a0_17, .ref a0_18, .ref a0_19, .ref a0_20, .ref a0_21, .ref a0_22, .ref a0_23, .ref a0_24, .ref a0_25, .ref a0_26, .ref a0_27, .ref a0_28, .ref a0_29, .ref a0_30, .ref a0_31, .ref a0_32, .ref a0_33, .ref a0_34, .ref a0_35, .long a0_36, .int a0_37, .ref a0_38, .ref a0_39, .int za0_40, .ref a0_41, .ref a0_42, .ref a0_43])), (a0_20, .inl (a0_20_c, 2, .inl a0_20_f)), (a0_21, .inl (a0_21_c, 2, .inl a0_21_f)), (a0_38, .inl (a0_38_c, 176, .inl za0_38_f)), (a0_39, .inl (a0_39_c, 2112, .inl za0_39_f))]) (va_A [(a0, .inr (8, [.int a0_0, .int a0_1, .int a0_2, .int a0_3, .ref a0_4, .int a0_5, .int a0_6, .int a0_7, .int a0_8, .int a0_9, .int a0_10, .long a0_11, .int a0_12, .int a0_13, .int a0_14, .int a0_15, .int a0_16, .int a0_17, .ref a0_18, .ref a0_19, .ref a0_20, .ref a0_21, .ref a0_22, .ref a0_23, .ref a0_24, .ref a0_25, .ref a0_26, .ref a0_27, .ref a0_28, .ref a0_29, .ref a0_30, .ref a0_31, .ref a0_32, .ref a0_33, .ref a0_34, .ref a0_35, .long a0_36, .int a0_37, .ref a0_38, .ref a0_39, .int a0_40, .ref a0_41, .ref a0_42, .ref a0_43])), (a0_20, .inl (a0_20_c, 2, .inl a0_20_f)), (a0_21, .inl (a0_21_c, 2, .inl a0_21_f)), (a0_38, .inl (a0_38_c, 176, .inl a0_38_f)), (a0_39, .inl (a0_39_c, 2112, .inl a0_39_f))] sz)) 0 0 (va_A [(a0, .inr (8, [.int a0_0, .int a0_1, .int a0_2, .int a0_3, .ref a0_4, .int a0_5, .int a0_6, .int a0_7, .int a0_8, .int a0_9, .int a0_10, .long a0_11, .int a0_12, .int a0_13, .int a0_14, .int a0_15, .int a0_16, .int a0_17, .ref a0_18, .ref a0_19, .ref a0_20, .ref a0_21, .ref a0_22, .ref a0_23, .ref a0_24, .ref a0_25, .ref a0_26, .ref a0_27, .ref a0_28, .ref a0_29, .ref a0_30, .ref a0_31, .ref a0_32, .ref a0_33, .ref a0_34, .ref a0_35, .long a0_36, .int a0_37, .ref a0_38, .ref a0_39, .int a0_40, .ref a0_41, .ref a0_42, .ref a0_43])), (a0_20, .inl (a0_20_c, 2, .inl a0_20_f)), (a0_21, .inl (a0_21_c, 2, .inl a0_21_f)), (a0_38, .inl (a0_38_c, 176, .inl a0_38_f)), (a0_39, .inl (a0_39_c, 2112, .inl a0_39_f))] sz) := by
  refine Met.ofW (cc := cX9_review) (maxL := 6) (ret := (some .int)) (by decide) rfl ?_
  intro p e s m args below meth c s₁ B hml hv
  obtain ⟨rfl, hsz, hP, hK, hD0, hE⟩ := hv
  have hx := B.exec
  have hb := B.bytes
  have hr := B.returns
  have hts0 := atoms_spec (ws := (.code yX9_review cX9_review 6 (some .int) :: TBL)) B.pre
  have hts := fun (w : Cond) (h : w ∈ TBL) => hts0 w (List.mem_cons_of_mem _ h)
  have hown : s.vm.findClass RX9 = some m.cls := findClass_of_methodNamed B.named
  have hlocks := B.notSynchronized
  have hN := hE.1
  subst hsz
  have hD := hD0.self (sz := s.heap.size)
  generalize hAe : va_A [(a0, .inr (8, [.int a0_0, .int a0_1, .int a0_2, .int a0_3, .ref a0_4, .int a0_5, .int a0_6, .int a0_7, .int a0_8, .int a0_9, .int a0_10, .long a0_11, .int a0_12, .int a0_13, .int a0_14, .int a0_15, .int a0_16, .int a0_17, .ref a0_18, .ref a0_19, .ref a0_20, .ref a0_21, .ref a0_22, .ref a0_23, .ref a0_24, .ref a0_25, .ref a0_26, .ref a0_27, .ref a0_28, .ref a0_29, .ref a0_30, .ref a0_31, .ref a0_32, .ref a0_33, .ref a0_34, .ref a0_35, .long a0_36, .int a0_37, .ref a0_38, .ref a0_39, .int a0_40, .ref a0_41, .ref a0_42, .ref a0_43])), (a0_20, .inl (a0_20_c, 2, .inl a0_20_f)), (a0_21, .inl (a0_21_c, 2, .inl a0_21_f)), (a0_38, .inl (a0_38_c, 176, .inl a0_38_f)), (a0_39, .inl (a0_39_c, 2112, .inl a0_39_f))] s.heap.size = A at hD hE ⊢
  have hA : ∀ q : Nat, s.heap.size ≤ q → A q := fun q h => by rw [← hAe]; exact Or.inr h
  have hS : va_S A s.heap s.heap [] := va_S.rf
  replace hP : va_P (dC, dI) vwCl [(a0, .inr (8, [.int a0_0, .int a0_1, .int a0_2, .int a0_3, .ref a0_4, .int a0_5, .int a0_6, .int a0_7, .int a0_8, .int a0_9, .int a0_10, .long a0_11, .int a0_12, .int a0_13, .int a0_14, .int a0_15, .int a0_16, .int a0_17, .ref a0_18, .ref a0_19, .ref a0_20, .ref a0_21, .ref a0_22, .ref a0_23, .ref a0_24, .ref a0_25, .ref a0_26, .ref a0_27, .ref a0_28, .ref a0_29, .ref a0_30, .ref a0_31, .ref a0_32, .ref a0_33, .ref a0_34, .ref a0_35, .long a0_36, .int a0_37, .ref a0_38, .ref a0_39, .int a0_40, .ref a0_41, .ref a0_42, .ref a0_43])), (a0_20, .inl (a0_20_c, 2, .inl a0_20_f)), (a0_21, .inl (a0_21_c, 2, .inl a0_21_f)), (a0_38, .inl (a0_38_c, 176, .inl a0_38_f)), (a0_39, .inl (a0_39_c, 2112, .inl a0_39_f))] s.heap := hP
  have hl := lv_entry ([.ref a0, .int a1, .int a2, .int a3]) (n := 6) (Nat.le_of_ble_eq_true rfl)
  rw [lg_entry_eq]
  generalize (lg_sl ([.ref a0, .int a1, .int a2, .int a3]) ++ List.replicate (6 - (lg_sl ([.ref a0, .int a1, .int a2, .int a3])).length) Slot.unset).toArray = ls at hl ⊢
  have hl : lv_has ls 6 [(0, .ref a0), (1, .int a1), (2, .int a2), (3, .int a3)] := hl
  have b_a1 := i32b a1
  have b_a2 := i32b a2
  have b_a3 := i32b a3
  have b_a0_0 := i32b a0_0
  have b_a0_1 := i32b a0_1
  have b_a0_2 := i32b a0_2
  have b_a0_3 := i32b a0_3
  have b_a0_9 := i32b a0_9
  have b_a0_10 := i32b a0_10
  have b_a0_12 := i32b a0_12
  have b_a0_13 := i32b a0_13
  have b_a0_14 := i32b a0_14
  have b_a0_15 := i32b a0_15
  have b_a0_16 := i32b a0_16
  have hp20 := vr_at h_a0_20_f (k := 0) rfl
  have hp21 := vr_at h_a0_21_f (k := 0) rfl
  refine lv_aload_n hx hb dX9_review_0 rfl (lv_at hl 0 rfl) ?_
  refine lv_iconst (v := 0) hx hb dX9_review_1 (by decide) ?_
  refine va_put (D := (dC, dI)) (ci := 8) (v := .int 0) (ty := .int) (C := RX9) (T := TX9) (N := 44) hx hb hts inlX9 tyX9 tyX9_ok nmX9 hown hK hP hD hS 0 rgL5_a6879b9 rfl 0 (by decide) (hts (.fieldLink RX9 85 "ClosedUntilModel" "thrown" "I") qw_408) (fun _ h9 => h9) rfl (by decide +kernel) rfl rfl (Nat.le_of_ble_eq_true rfl) dX9_review_2 (fun H locs hP9 hD9 hS9 => ?_)
  clear hP hD hS
  obtain ⟨hP, hD⟩ := rgS5_283d4d4 (e := (a0, .inr (8, [.int 0, .int a0_1, .int a0_2, .int a0_3, .ref a0_4, .int a0_5, .int a0_6, .int a0_7, .int a0_8, .int a0_9, .int a0_10, .long a0_11, .int a0_12, .int a0_13, .int a0_14, .int a0_15, .int a0_16, .int a0_17, .ref a0_18, .ref a0_19, .ref a0_20, .ref a0_21, .ref a0_22, .ref a0_23, .ref a0_24, .ref a0_25, .ref a0_26, .ref a0_27, .ref a0_28, .ref a0_29, .ref a0_30, .ref a0_31, .ref a0_32, .ref a0_33, .ref a0_34, .ref a0_35, .long a0_36, .int a0_37, .ref a0_38, .ref a0_39, .int a0_40, .ref a0_41, .ref a0_42, .ref a0_43]))) hP9 hD9 rfl
  have hS := hS9; clear hP9 hD9 hS9
  refine lv_aload_n hx hb dX9_review_5 rfl (lv_at hl 0 rfl) ?_
  refine lv_iload_n hx hb dX9_review_6 rfl (lv_at hl 1 rfl) ?_
  have qc0 : (0 : Int32).toInt = 0 := by decide
  have hPc := (rgP5_54fd6a0 hP)
  have hKc := (rgK4_2a33748 hK)
  refine vp_callSi ((va_runV (As := [.int a1]) (rest := []) ⟨hx, hb, hml, hown, hts⟩ (k_X9_isClosure l dC dI g (a0) (a1) (0) (a0_1) (a0_2) (a0_3) (a0_4) (a0_5) (a0_6) (a0_7) (a0_8) (a0_9) (a0_10) (a0_11) (a0_12) (a0_13) (a0_14) (a0_15) (a0_16) (a0_17) (a0_18) (a0_19) (a0_20) (a0_21) (a0_22) (a0_23) (a0_24) (a0_25) (a0_26) (a0_27) (a0_28) (a0_29) (a0_30) (a0_31) (a0_32) (a0_33) (a0_34) (a0_35) (a0_36) (a0_37) (a0_38) (a0_39) (a0_40) (a0_41) (a0_42) (a0_43) (a0_21_c) (a0_21_f) (by omega) (by omega) (by omega) (by omega) (by omega) (by omega) (by omega) h_a0_21_f) (cwV 1 hts (gwV qw_618 qw_619 qw_620 qw_386 qw_617) rfl rfl rfl (by decide +kernel) ⟨Nat.le_of_ble_eq_true rfl, Nat.le_of_ble_eq_true rfl⟩) ⟨fun a U g9 mk q => ⟨q.1, q.2.1, va_K.moved (u := U) (U := U.calling g9 mk a) (Vm.Alike.refl U.vm) q.2.2.1, Ev.bl q.2.2.2⟩, va_recv hK hP (ci := 8) (q0 := 0) rfl rgL5_a6879b9, fun U hU hW => ⟨rfl, atB hU hPc, va_K.moved hW.alike hKc, hE.go hS (fun _ h => h.elim) hU hW⟩⟩ rfl rfl hl.1 rfl (lv_room (Nat.le_of_ble_eq_true rfl)) dX9_review_7 ⟨Nat.le_of_ble_eq_true rfl, Nat.le_of_ble_eq_true rfl⟩)).run (fun r1 h_r1 => ?_)
  have h_r1 : (r1 = 0 ∨ r1 = 1) ∧ ((r1.toInt = 1 ∧ 0 ≤ a1.toInt ∧ a1.toInt < (a0_21_f 0).toInt) ∨ r1.toInt = 0) := h_r1
  have b_r1 := z01 (show r1 = 0 ∨ r1 = 1 from h_r1.1)
  refine lv_if_eq (tgt := 52) hx hb dX9_review_10 (by decide) (fun c10_2 => ?_) (fun c10_2 => ?_)
  · have c10_2 : r1.toInt = 0 := (cv_eq rfl (by decide)).mp c10_2
    refine lv_iconst (v := (-1)) hx hb dX9_review_52 (by decide) ?_
    have qcm1 : ((-1) : Int32).toInt = (-1) := by decide
    have qc0 : (0 : Int32).toInt = 0 := by decide
    refine W.widen (k := 0) (n := 0) (Nat.le_of_ble_eq_true rfl) (Nat.le_of_ble_eq_true rfl) ?_
    have hP9 := hP
    have hD9 := hD
    have hK9 := (rgK4_6738937 hK)
    have hf9_0 : (0 ≤ a0_40.toInt ∧ a0_40.toInt ≤ 12) := by omega
    have hf9_1 : (RowOk (a0_20_f 0).toInt a0_38_f 0) := hms
    have hf9_2 : (MU (a0_20_f 0).toInt a0_39_f a0_40) := by assumption
    exact W.iret (v := (-1)) hx hb hr (fun t ht hW => ⟨⟨(-1), (-1), rfl, rfl, 0, a0_40, a0_38_f, a0_39_f, hf9_0, hf9_1, hf9_2, atB ht hP9, va_K.moved hW.alike hK9, hD9⟩, hS.F ht⟩) hS.2.2 dX9_review_53
  · have c10_2 : ¬ (r1.toInt = 0) := mt (cv_eq rfl (by decide)).mpr c10_2
    refine lv_iload_n hx hb dX9_review_13 rfl (lv_at hl 2 rfl) ?_
    refine lv_i2l hx hb dX9_review_14 rfl ?_
    refine lv_lconst (v := 0) hx hb dX9_review_15 (by decide) ?_
    refine lv_ldc2 (v := 219144) hx hb hown (hts (.constantLong RX9 129 (219144)) qw_447) dX9_review_16 ?_
    have hPc := (rgP5_7f34564 hP)
    have hKc := (rgK4_6738937 hK)
    refine vp_callSi ((va_runS (As := [.long (a2.toInt64), .long 0, .long 219144]) (rest := []) ⟨hx, hb, hml, hown, hts⟩ (k_X9_within l dC dI g ((a2.toInt64)) (0) (219144) (a2.toInt) (0) (219144) (w_li rfl) (by decide) (by decide)) (va_cwS 3 hts (gwS qw_444 qw_445 qw_386 qw_443) rfl rfl rfl (by decide +kernel) ⟨Nat.le_of_ble_eq_true rfl, Nat.le_of_ble_eq_true rfl⟩) ⟨fun a U g9 mk q => ⟨q.1, q.2.1, va_K.moved (u := U) (U := U.calling g9 mk a) (Vm.Alike.refl U.vm) q.2.2.1, Ev.bl q.2.2.2⟩, fun U hU hW => ⟨rfl, atB hU hPc, va_K.moved hW.alike hKc, hE.go hS (fun _ h => h.elim) hU hW⟩⟩ rfl rfl hl.1 rfl (lv_room (Nat.le_of_ble_eq_true rfl)) dX9_review_19 ⟨Nat.le_of_ble_eq_true rfl, Nat.le_of_ble_eq_true rfl⟩)).run (fun r3 h_r3 => ?_)
    have h_r3 : (r3 = 0 ∨ r3 = 1) ∧ ((r3.toInt = 1 ∧ 0 ≤ a2.toInt ∧ a2.toInt ≤ 219144) ∨ (r3.toInt = 0 ∧ ¬ (0 ≤ a2.toInt ∧ a2.toInt ≤ 219144))) := h_r3
    have b_r3 := z01 h_r3.1
    refine lv_if_eq (tgt := 52) hx hb dX9_review_22 (by decide) (fun c22_4 => ?_) (fun c22_4 => ?_)
    · have c22_4 : r3.toInt = 0 := (cv_eq rfl (by decide)).mp c22_4
      refine lv_iconst (v := (-1)) hx hb dX9_review_52 (by decide) ?_
      have qcm1 : ((-1) : Int32).toInt = (-1) := by decide
      have qc0 : (0 : Int32).toInt = 0 := by decide
      refine W.widen (k := 0) (n := 0) (Nat.le_of_ble_eq_true rfl) (Nat.le_of_ble_eq_true rfl) ?_
      have hP9 := hP
      have hD9 := hD
      have hK9 := (rgK4_6738937 hK)
      have hf9_0 : (0 ≤ a0_40.toInt ∧ a0_40.toInt ≤ 12) := by omega
      have hf9_1 : (RowOk (a0_20_f 0).toInt a0_38_f 0) := hms
      have hf9_2 : (MU (a0_20_f 0).toInt a0_39_f a0_40) := by assumption
      exact W.iret (v := (-1)) hx hb hr (fun t ht hW => ⟨⟨(-1), (-1), rfl, rfl, 0, a0_40, a0_38_f, a0_39_f, hf9_0, hf9_1, hf9_2, atB ht hP9, va_K.moved hW.alike hK9, hD9⟩, hS.F ht⟩) hS.2.2 dX9_review_53
    · have c22_4 : ¬ (r3.toInt = 0) := mt (cv_eq rfl (by decide)).mpr c22_4
      refine lv_iload_n hx hb dX9_review_25 rfl (lv_at hl 3 rfl) ?_
      refine lv_i2l hx hb dX9_review_26 rfl ?_
      refine lv_ldc2 (v := (-50)) hx hb hown (hts (.constantLong RX9 384 (-50)) qw_648) dX9_review_27 ?_
      refine lv_ldc2 (v := 50) hx hb hown (hts (.constantLong RX9 386 (50)) qw_649) dX9_review_30 ?_
      have hPc := (rgP5_7f34564 hP)
      have hKc := (rgK4_6738937 hK)
      refine vp_callSi ((va_runS (As := [.long (a3.toInt64), .long (-50), .long 50]) (rest := []) ⟨hx, hb, hml, hown, hts⟩ (k_X9_within l dC dI g ((a3.toInt64)) ((-50)) (50) (a3.toInt) ((-50)) (50) (w_li rfl) (by decide) (by decide)) (va_cwS 3 hts (gwS qw_444 qw_445 qw_386 qw_443) rfl rfl rfl (by decide +kernel) ⟨Nat.le_of_ble_eq_true rfl, Nat.le_of_ble_eq_true rfl⟩) ⟨fun a U g9 mk q => ⟨q.1, q.2.1, va_K.moved (u := U) (U := U.calling g9 mk a) (Vm.Alike.refl U.vm) q.2.2.1, Ev.bl q.2.2.2⟩, fun U hU hW => ⟨rfl, atB hU hPc, va_K.moved hW.alike hKc, hE.go hS (fun _ h => h.elim) hU hW⟩⟩ rfl rfl hl.1 rfl (lv_room (Nat.le_of_ble_eq_true rfl)) dX9_review_33 ⟨Nat.le_of_ble_eq_true rfl, Nat.le_of_ble_eq_true rfl⟩)).run (fun r5 h_r5 => ?_)
      have h_r5 : (r5 = 0 ∨ r5 = 1) ∧ ((r5.toInt = 1 ∧ (-50) ≤ a3.toInt ∧ a3.toInt ≤ 50) ∨ (r5.toInt = 0 ∧ ¬ ((-50) ≤ a3.toInt ∧ a3.toInt ≤ 50))) := h_r5
      have b_r5 := z01 h_r5.1
      refine lv_if_eq (tgt := 52) hx hb dX9_review_36 (by decide) (fun c36_6 => ?_) (fun c36_6 => ?_)
      · have c36_6 : r5.toInt = 0 := (cv_eq rfl (by decide)).mp c36_6
        refine lv_iconst (v := (-1)) hx hb dX9_review_52 (by decide) ?_
        have qcm1 : ((-1) : Int32).toInt = (-1) := by decide
        have qc0 : (0 : Int32).toInt = 0 := by decide
        refine W.widen (k := 0) (n := 0) (Nat.le_of_ble_eq_true rfl) (Nat.le_of_ble_eq_true rfl) ?_
        have hP9 := hP
        have hD9 := hD
        have hK9 := (rgK4_6738937 hK)
        have hf9_0 : (0 ≤ a0_40.toInt ∧ a0_40.toInt ≤ 12) := by omega
        have hf9_1 : (RowOk (a0_20_f 0).toInt a0_38_f 0) := hms
        have hf9_2 : (MU (a0_20_f 0).toInt a0_39_f a0_40) := by assumption
        exact W.iret (v := (-1)) hx hb hr (fun t ht hW => ⟨⟨(-1), (-1), rfl, rfl, 0, a0_40, a0_38_f, a0_39_f, hf9_0, hf9_1, hf9_2, atB ht hP9, va_K.moved hW.alike hK9, hD9⟩, hS.F ht⟩) hS.2.2 dX9_review_53
      · have c36_6 : ¬ (r5.toInt = 0) := mt (cv_eq rfl (by decide)).mpr c36_6
        refine lv_aload_n hx hb dX9_review_39 rfl (lv_at hl 0 rfl) ?_
        refine va_get (D := (dC, dI)) (ci := 8) (v := .ref a0_38) (C := RX9) (T := TX9) (N := 44) hx hb hts inlX9 hown hK hP 0 rgL5_a6879b9 rfl 38 (by decide) (hts (.fieldLink RX9 70 "ClosedUntilModel" "s" "[I") qw_502) (fun _ h9 => h9) rfl dX9_review_40 ?_
        refine lv_bipush (v := 44) hx hb dX9_review_43 (by decide) ?_
        refine lv_iload_n hx hb dX9_review_45 rfl (lv_at hl 1 rfl) ?_
        refine lv_iadd hx hb dX9_review_46 ?_
        refine lv_topi (fun x7 e_x7 => ?_)
        try have e_x7 := ti_add e_x7 (show (44 : Int32).toInt = 44 by decide) rfl (by omega)
        refine va_iald hx hb hK hP 3 2 rgL5_b55ecbc rgT4_df3fd44 (vinI (by omega) (by omega)) dX9_review_47 ?_
        refine lv_topi (fun x8 e_x8 => ?_)
        have q_x8 := congrArg Int32.toInt e_x8
        have b_x8 := i32b x8
        refine lv_iconst (v := 5) hx hb dX9_review_48 (by decide) ?_
        refine lv_icmp_ne (tgt := 54) hx hb dX9_review_49 (by decide) (fun c49_9 => ?_) (fun c49_9 => ?_)
        · have c49_9 : ¬ (x8.toInt = 5) := mt (cv_eq rfl (by decide)).mpr c49_9
          refine lv_aload_n hx hb dX9_review_54 rfl (lv_at hl 0 rfl) ?_
          have qc0 : (0 : Int32).toInt = 0 := by decide
          have hPc := (rgP5_93b6ef8 hP)
          have hKc := (rgK4_30a4728 hK)
          have hDc := (rgD5_79bae6c hD)
          have hFc := freeW hDc hS hA
          refine va_callv (va_runV (As := []) (rest := []) ⟨hx, hb, hml, hown, hts⟩ (k_X9_keeps l dC dI g H.size (a0) (0) (a0_1) (a0_2) (a0_3) (a0_4) (a0_5) (a0_6) (a0_7) (a0_8) (a0_9) (a0_10) (a0_11) (a0_12) (a0_13) (a0_14) (a0_15) (a0_16) (a0_17) (a0_18) (a0_19) (a0_20) (a0_21) (a0_22) (a0_23) (a0_24) (a0_25) (a0_26) (a0_27) (a0_28) (a0_29) (a0_30) (a0_31) (a0_32) (a0_33) (a0_34) (a0_35) (a0_36) (a0_37) (a0_38) (a0_39) (a0_40) (a0_41) (a0_42) (a0_43) (a0_38_c) (a0_38_f) (a0_39_c) (a0_39_f) ((a0_20_f 0).toInt) (by omega) (by omega) (by omega) (by omega) (by omega) (by omega) (by omega) (by omega) (by assumption) (by assumption)) (cwV 0 hts (gwV qw_651 qw_652 qw_653 qw_386 qw_650) rfl rfl rfl (by decide +kernel) ⟨Nat.le_of_ble_eq_true rfl, Nat.le_of_ble_eq_true rfl⟩) ⟨fun a U g9 mk q => ⟨q.1, q.2.1, q.2.2.1, va_K.moved (u := U) (U := U.calling g9 mk a) (Vm.Alike.refl U.vm) q.2.2.2.1, q.2.2.2.2.1, Ev.bl q.2.2.2.2.2⟩, va_recv hK hP (ci := 8) (q0 := 0) rfl rgL5_a6879b9, fun U hU hW => ⟨rfl, by rw [hU], atB hU hPc, va_K.moved hW.alike hKc, hDc.weaken (fun _ _ _ _ => trivial), hE.go hS hFc hU hW⟩⟩ rfl rfl hl.1 rfl (lv_room (Nat.le_of_ble_eq_true rfl)) dX9_review_55 ⟨Nat.le_of_ble_eq_true rfl, Nat.le_of_ble_eq_true rfl⟩) hS (fun q _ h => hFc q h) hFc (fun u10 t H1 locs ht hvm h_u10 hB hz1 hk1 hS => ?_)
          obtain ⟨za0_40_12, za0_39_f_13, hF14, hF15, hP1, hK1, hD1⟩ := hB
          have hK1 := va_K.moved hvm.symm hK1
          have hJ9 := rgJ5_eb07d49 hP hD hk1 hFc (atH ht hP1) hD1
          clear hP hD hPc hKc hDc hFc hP1 hD1 hk1 hz1
          obtain ⟨hP, hD⟩ := hJ9
          clear hK1
          generalize H1 = H at hP hS ⊢
          refine W.widen (k := 0) (n := 0) (Nat.le_of_ble_eq_true rfl) (Nat.le_of_ble_eq_true rfl) ?_
          refine lv_aload_n hx hb dX9_review_58 rfl (lv_at hl 0 rfl) ?_
          refine va_get (D := (dC, dI)) (ci := 8) (v := .ref a0_38) (C := RX9) (T := TX9) (N := 44) hx hb hts inlX9 hown hK hP 0 rgL5_a6879b9 rfl 38 (by decide) (hts (.fieldLink RX9 70 "ClosedUntilModel" "s" "[I") qw_502) (fun _ h9 => h9) rfl dX9_review_59 ?_
          refine lv_bipush (v := 44) hx hb dX9_review_62 (by decide) ?_
          refine lv_iload_n hx hb dX9_review_64 rfl (lv_at hl 1 rfl) ?_
          refine lv_iadd hx hb dX9_review_65 ?_
          refine lv_topi (fun x16 e_x16 => ?_)
          try have e_x16 := ti_add e_x16 (show (44 : Int32).toInt = 44 by decide) rfl (by omega)
          refine va_iald hx hb hK hP 3 2 rgL5_b55ecbc rgT4_df3fd44 (vinI (by omega) (by omega)) dX9_review_66 ?_
          refine lv_topi (fun x17 e_x17 => ?_)
          have q_x17 := congrArg Int32.toInt e_x17
          have b_x17 := i32b x17
          have hm6 := MO.at hms.2 (c := a1) (by omega) (by omega) (by omega) e_x8
          have hxx : x17 = x8 := by rw [e_x17, e_x8, clN, clN, show x16.toInt = x7.toInt by omega]
          have hxy : x17.toInt = x8.toInt := by rw [hxx]
          refine lv_istore (lv' := [(4, .int x17), (0, .ref a0), (1, .int a1), (2, .int a2), (3, .int a3)]) hx hb dX9_review_67 hl (by decide) rfl (fun ls hl => ?_)
          refine lv_bipush (v := 56) hx hb dX9_review_69 (by decide) ?_
          refine lv_bipush (v := 10) hx hb dX9_review_71 (by decide) ?_
          refine lv_iload_n hx hb dX9_review_73 rfl (lv_at hl 2 rfl) ?_
          refine lv_imul hx hb dX9_review_74 ?_
          refine lv_topi (fun x18 e_x18 => ?_)
          try have e_x18 := ti_mul e_x18 (show (10 : Int32).toInt = 10 by decide) rfl (by omega)
          refine lv_iadd hx hb dX9_review_75 ?_
          refine lv_topi (fun x19 e_x19 => ?_)
          try have e_x19 := ti_add e_x19 (show (56 : Int32).toInt = 56 by decide) rfl (by omega)
          refine lv_istore (lv' := [(5, .int x19), (4, .int x17), (0, .ref a0), (1, .int a1), (2, .int a2), (3, .int a3)]) hx hb dX9_review_76 hl (by decide) rfl (fun ls hl => ?_)
          refine wloop (fun n H locs ls => ∃ (l78_4 : Int32) (w78_3 : Nat → Int32), n = (l78_4.toInt).toNat ∧ (RowOk (a0_20_f 0).toInt w78_3 0) ∧ (0 ≤ l78_4.toInt ∧ l78_4.toInt ≤ 4) ∧ (KP 56 a0_38_f w78_3) ∧ lv_has ls 6 [(5, .int x19), (4, .int l78_4), (0, .ref a0), (1, .int a1), (2, .int a2), (3, .int a3)] ∧ va_P (dC, dI) vwCl [(a0, .inr (8, [.int 0, .int a0_1, .int a0_2, .int a0_3, .ref a0_4, .int a0_5, .int a0_6, .int a0_7, .int a0_8, .int a0_9, .int a0_10, .long a0_11, .int a0_12, .int a0_13, .int a0_14, .int a0_15, .int a0_16, .int a0_17, .ref a0_18, .ref a0_19, .ref a0_20, .ref a0_21, .ref a0_22, .ref a0_23, .ref a0_24, .ref a0_25, .ref a0_26, .ref a0_27, .ref a0_28, .ref a0_29, .ref a0_30, .ref a0_31, .ref a0_32, .ref a0_33, .ref a0_34, .ref a0_35, .long a0_36, .int a0_37, .ref a0_38, .ref a0_39, .int za0_40_12, .ref a0_41, .ref a0_42, .ref a0_43])), (a0_20, .inl (a0_20_c, 2, .inl a0_20_f)), (a0_21, .inl (a0_21_c, 2, .inl a0_21_f)), (a0_38, .inl (a0_38_c, 176, .inl w78_3)), (a0_39, .inl (a0_39_c, 2112, .inl za0_39_f_13))] H ∧ va_D A [(a0, .inr (8, [.int 0, .int a0_1, .int a0_2, .int a0_3, .ref a0_4, .int a0_5, .int a0_6, .int a0_7, .int a0_8, .int a0_9, .int a0_10, .long a0_11, .int a0_12, .int a0_13, .int a0_14, .int a0_15, .int a0_16, .int a0_17, .ref a0_18, .ref a0_19, .ref a0_20, .ref a0_21, .ref a0_22, .ref a0_23, .ref a0_24, .ref a0_25, .ref a0_26, .ref a0_27, .ref a0_28, .ref a0_29, .ref a0_30, .ref a0_31, .ref a0_32, .ref a0_33, .ref a0_34, .ref a0_35, .long a0_36, .int a0_37, .ref a0_38, .ref a0_39, .int za0_40_12, .ref a0_41, .ref a0_42, .ref a0_43])), (a0_20, .inl (a0_20_c, 2, .inl a0_20_f)), (a0_21, .inl (a0_21_c, 2, .inl a0_21_f)), (a0_38, .inl (a0_38_c, 176, .inl w78_3)), (a0_39, .inl (a0_39_c, 2112, .inl za0_39_f_13))] ∧ va_S A s.heap H locs) ?_ ((x17.toInt).toNat) _ _ _ ⟨x17, a0_38_f, rfl, hms, (by omega), KP.rf, lv_sub hl [0, 1, 2, 3, 4, 5] rfl, hP, hD, hS⟩
          intro n78 H locs ls hI ih78
          obtain ⟨l78_4, w78_3, hn78, gx78_0, gx78_1, gx78_2, hl, hP, hD, hS⟩ := hI
          have b_l78_4 := i32b l78_4
          refine lv_iload hx hb dX9_review_78 (lv_at hl 1 rfl) ?_
          refine lv_if_le (tgt := 161) hx hb dX9_review_80 (by decide) (fun c80_20 => ?_) (fun c80_20 => ?_)
          · have c80_20 : l78_4.toInt ≤ 0 := (cv_le rfl (by decide)).mp c80_20
            refine lv_aload_n hx hb dX9_review_161 rfl (lv_at hl 2 rfl) ?_
            refine va_get (D := (dC, dI)) (ci := 8) (v := .ref a0_38) (C := RX9) (T := TX9) (N := 44) hx hb hts inlX9 hown hK hP 0 rgL5_a6879b9 rfl 38 (by decide) (hts (.fieldLink RX9 70 "ClosedUntilModel" "s" "[I") qw_502) (fun _ h9 => h9) rfl dX9_review_162 ?_
            refine lv_iload hx hb dX9_review_165 (lv_at hl 0 rfl) ?_
            refine lv_iconst (v := 2) hx hb dX9_review_167 (by decide) ?_
            refine lv_iload hx hb dX9_review_168 (lv_at hl 1 rfl) ?_
            refine lv_imul hx hb dX9_review_170 ?_
            refine lv_topi (fun x21 e_x21 => ?_)
            try have e_x21 := ti_mul e_x21 (show (2 : Int32).toInt = 2 by decide) rfl (by omega)
            refine lv_iadd hx hb dX9_review_171 ?_
            refine lv_topi (fun x22 e_x22 => ?_)
            try have e_x22 := ti_add e_x22 rfl rfl (by omega)
            refine lv_iload_n hx hb dX9_review_172 rfl (lv_at hl 4 rfl) ?_
            refine va_iast hx hb hK hP hD hS 3 2 rgL5_b55ecbc rgT4_df3fd44 (vinI (by omega) (by omega)) dX9_review_173 (fun H locs hP9 hD9 hS9 => ?_)
            obtain ⟨y23, e_y23⟩ : ∃ y, (upd w78_3 x22.toNatClampNeg a2) = y := ⟨_, rfl⟩
            clear hP hD hS
            obtain ⟨hP, hD⟩ := rgS5_283009a (e := (a0_38, .inl (a0_38_c, 176, .inl y23))) hP9 hD9 (congrArg (fun z9 => (((a0_38, .inl (a0_38_c, 176, .inl z9)) : Nat × va_E))) e_y23)
            have hS := hS9; clear hP9 hD9 hS9
            have hr_y23 := RowOk.keep gx78_0 e_y23 (by omega) (by omega)
            have hk_y23 : KP 56 a0_38_f y23 := kp_step gx78_2 e_y23 (kI (by omega))
            refine lv_aload_n hx hb dX9_review_174 rfl (lv_at hl 2 rfl) ?_
            refine va_get (D := (dC, dI)) (ci := 8) (v := .ref a0_38) (C := RX9) (T := TX9) (N := 44) hx hb hts inlX9 hown hK hP 0 rgL5_a6879b9 rfl 38 (by decide) (hts (.fieldLink RX9 70 "ClosedUntilModel" "s" "[I") qw_502) (fun _ h9 => h9) rfl dX9_review_175 ?_
            refine lv_iload hx hb dX9_review_178 (lv_at hl 0 rfl) ?_
            refine lv_iconst (v := 2) hx hb dX9_review_180 (by decide) ?_
            refine lv_iload hx hb dX9_review_181 (lv_at hl 1 rfl) ?_
            refine lv_imul hx hb dX9_review_183 ?_
            refine lv_topi (fun x24 e_x24 => ?_)
            try have e_x24 := ti_mul e_x24 (show (2 : Int32).toInt = 2 by decide) rfl (by omega)
            refine lv_iadd hx hb dX9_review_184 ?_
            refine lv_topi (fun x25 e_x25 => ?_)
            try have e_x25 := ti_add e_x25 rfl rfl (by omega)
            refine lv_iconst (v := 1) hx hb dX9_review_185 (by decide) ?_
            refine lv_iadd hx hb dX9_review_186 ?_
            refine lv_topi (fun x26 e_x26 => ?_)
            try have e_x26 := ti_add e_x26 rfl (show (1 : Int32).toInt = 1 by decide) (by omega)
            refine lv_iload_n hx hb dX9_review_187 rfl (lv_at hl 5 rfl) ?_
            refine va_iast hx hb hK hP hD hS 3 2 rgL5_b55ecbc rgT4_df3fd44 (vinI (by omega) (by omega)) dX9_review_188 (fun H locs hP9 hD9 hS9 => ?_)
            obtain ⟨y27, e_y27⟩ : ∃ y, (upd y23 x26.toNatClampNeg a3) = y := ⟨_, rfl⟩
            clear hP hD hS
            obtain ⟨hP, hD⟩ := rgS5_283009a (e := (a0_38, .inl (a0_38_c, 176, .inl y27))) hP9 hD9 (congrArg (fun z9 => (((a0_38, .inl (a0_38_c, 176, .inl z9)) : Nat × va_E))) e_y27)
            have hS := hS9; clear hP9 hD9 hS9
            have hr_y27 := RowOk.keep hr_y23 e_y27 (by omega) (by omega)
            have hk_y27 : KP 56 a0_38_f y27 := kp_step hk_y23 e_y27 (kI (by omega))
            refine lv_aload_n hx hb dX9_review_189 rfl (lv_at hl 2 rfl) ?_
            refine va_get (D := (dC, dI)) (ci := 8) (v := .ref a0_38) (C := RX9) (T := TX9) (N := 44) hx hb hts inlX9 hown hK hP 0 rgL5_a6879b9 rfl 38 (by decide) (hts (.fieldLink RX9 70 "ClosedUntilModel" "s" "[I") qw_502) (fun _ h9 => h9) rfl dX9_review_190 ?_
            refine lv_bipush (v := 44) hx hb dX9_review_193 (by decide) ?_
            refine lv_iload_n hx hb dX9_review_195 rfl (lv_at hl 3 rfl) ?_
            refine lv_iadd hx hb dX9_review_196 ?_
            refine lv_topi (fun x28 e_x28 => ?_)
            try have e_x28 := ti_add e_x28 (show (44 : Int32).toInt = 44 by decide) rfl (by omega)
            refine lv_dup2_11 hx hb dX9_review_197 rfl rfl ?_
            refine va_iald hx hb hK hP 3 2 rgL5_b55ecbc rgT4_df3fd44 (vinI (by omega) (by omega)) dX9_review_198 ?_
            refine lv_topi (fun x29 e_x29 => ?_)
            have q_x29 := congrArg Int32.toInt e_x29
            have b_x29 := i32b x29
            have hm8 : x29 = x8 := by rw [e_x29, hk_y27 _ (clI (by omega) (by omega)), e_x8, clN, clN, show x28.toInt = x7.toInt by omega]
            have hm9 : x29.toInt = x8.toInt := by rw [hm8]
            refine lv_iconst (v := 1) hx hb dX9_review_199 (by decide) ?_
            refine lv_iadd hx hb dX9_review_200 ?_
            refine lv_topi (fun x30 e_x30 => ?_)
            try have e_x30 := ti_add e_x30 rfl (show (1 : Int32).toInt = 1 by decide) (by omega)
            refine va_iast hx hb hK hP hD hS 3 2 rgL5_b55ecbc rgT4_df3fd44 (vinI (by omega) (by omega)) dX9_review_201 (fun H locs hP9 hD9 hS9 => ?_)
            obtain ⟨y31, e_y31⟩ : ∃ y, (upd y27 x28.toNatClampNeg x30) = y := ⟨_, rfl⟩
            clear hP hD hS
            obtain ⟨hP, hD⟩ := rgS5_283009a (e := (a0_38, .inl (a0_38_c, 176, .inl y31))) hP9 hD9 (congrArg (fun z9 => (((a0_38, .inl (a0_38_c, 176, .inl z9)) : Nat × va_E))) e_y31)
            have hS := hS9; clear hP9 hD9 hS9
            have hr_y31 := RowOk.many hr_y27 e_y31 (by omega) (by omega) (by omega)
            refine lv_aload_n hx hb dX9_review_202 rfl (lv_at hl 2 rfl) ?_
            refine va_get (D := (dC, dI)) (ci := 8) (v := .ref a0_38) (C := RX9) (T := TX9) (N := 44) hx hb hts inlX9 hown hK hP 0 rgL5_a6879b9 rfl 38 (by decide) (hts (.fieldLink RX9 70 "ClosedUntilModel" "s" "[I") qw_502) (fun _ h9 => h9) rfl dX9_review_203 ?_
            refine lv_bipush (v := 44) hx hb dX9_review_206 (by decide) ?_
            refine lv_iload_n hx hb dX9_review_208 rfl (lv_at hl 3 rfl) ?_
            refine lv_iadd hx hb dX9_review_209 ?_
            refine lv_topi (fun x32 e_x32 => ?_)
            try have e_x32 := ti_add e_x32 (show (44 : Int32).toInt = 44 by decide) rfl (by omega)
            refine va_iald hx hb hK hP 3 2 rgL5_b55ecbc rgT4_df3fd44 (vinI (by omega) (by omega)) dX9_review_210 ?_
            refine lv_topi (fun x33 e_x33 => ?_)
            have q_x33 := congrArg Int32.toInt e_x33
            have b_x33 := i32b x33
            have qc0 : (0 : Int32).toInt = 0 := by decide
            refine W.widen (k := 0) (n := 0) (Nat.le_of_ble_eq_true rfl) (Nat.le_of_ble_eq_true rfl) ?_
            have hP9 := hP
            have hD9 := hD
            have hK9 := (rgK4_6738937 hK)
            have hf9_0 : (0 ≤ za0_40_12.toInt ∧ za0_40_12.toInt ≤ 12) := by omega
            have hf9_1 : (RowOk (a0_20_f 0).toInt y31 0) := hr_y31
            have hf9_2 : (MU (a0_20_f 0).toInt za0_39_f_13 za0_40_12) := by assumption
            exact W.iret (v := x33) hx hb hr (fun t ht hW => ⟨⟨x33, x33, rfl, rfl, 0, za0_40_12, y31, za0_39_f_13, hf9_0, hf9_1, hf9_2, atB ht hP9, va_K.moved hW.alike hK9, hD9⟩, hS.F ht⟩) hS.2.2 dX9_review_211
          · have c80_20 : ¬ (l78_4.toInt ≤ 0) := mt (cv_le rfl (by decide)).mpr c80_20
            refine lv_aload_n hx hb dX9_review_83 rfl (lv_at hl 2 rfl) ?_
            refine va_get (D := (dC, dI)) (ci := 8) (v := .ref a0_38) (C := RX9) (T := TX9) (N := 44) hx hb hts inlX9 hown hK hP 0 rgL5_a6879b9 rfl 38 (by decide) (hts (.fieldLink RX9 70 "ClosedUntilModel" "s" "[I") qw_502) (fun _ h9 => h9) rfl dX9_review_84 ?_
            refine lv_iload hx hb dX9_review_87 (lv_at hl 0 rfl) ?_
            refine lv_iconst (v := 2) hx hb dX9_review_89 (by decide) ?_
            refine lv_iload hx hb dX9_review_90 (lv_at hl 1 rfl) ?_
            refine lv_imul hx hb dX9_review_92 ?_
            refine lv_topi (fun x34 e_x34 => ?_)
            try have e_x34 := ti_mul e_x34 (show (2 : Int32).toInt = 2 by decide) rfl (by omega)
            refine lv_iadd hx hb dX9_review_93 ?_
            refine lv_topi (fun x35 e_x35 => ?_)
            try have e_x35 := ti_add e_x35 rfl rfl (by omega)
            refine lv_iconst (v := 2) hx hb dX9_review_94 (by decide) ?_
            refine lv_isub hx hb dX9_review_95 ?_
            refine lv_topi (fun x36 e_x36 => ?_)
            try have e_x36 := ti_sub e_x36 rfl (show (2 : Int32).toInt = 2 by decide) (by omega)
            refine va_iald hx hb hK hP 3 2 rgL5_b55ecbc rgT4_df3fd44 (vinI (by omega) (by omega)) dX9_review_96 ?_
            refine lv_topi (fun x37 e_x37 => ?_)
            have q_x37 := congrArg Int32.toInt e_x37
            have b_x37 := i32b x37
            refine lv_iload_n hx hb dX9_review_97 rfl (lv_at hl 4 rfl) ?_
            refine lv_icmp_le (tgt := 161) hx hb dX9_review_98 (by decide) (fun c98_38 => ?_) (fun c98_38 => ?_)
            · have c98_38 : x37.toInt ≤ a2.toInt := (cv_le rfl rfl).mp c98_38
              refine lv_aload_n hx hb dX9_review_161 rfl (lv_at hl 2 rfl) ?_
              refine va_get (D := (dC, dI)) (ci := 8) (v := .ref a0_38) (C := RX9) (T := TX9) (N := 44) hx hb hts inlX9 hown hK hP 0 rgL5_a6879b9 rfl 38 (by decide) (hts (.fieldLink RX9 70 "ClosedUntilModel" "s" "[I") qw_502) (fun _ h9 => h9) rfl dX9_review_162 ?_
              refine lv_iload hx hb dX9_review_165 (lv_at hl 0 rfl) ?_
              refine lv_iconst (v := 2) hx hb dX9_review_167 (by decide) ?_
              refine lv_iload hx hb dX9_review_168 (lv_at hl 1 rfl) ?_
              refine lv_imul hx hb dX9_review_170 ?_
              refine lv_topi (fun x39 e_x39 => ?_)
              try have e_x39 := ti_mul e_x39 (show (2 : Int32).toInt = 2 by decide) rfl (by omega)
              refine lv_iadd hx hb dX9_review_171 ?_
              refine lv_topi (fun x40 e_x40 => ?_)
              try have e_x40 := ti_add e_x40 rfl rfl (by omega)
              refine lv_iload_n hx hb dX9_review_172 rfl (lv_at hl 4 rfl) ?_
              refine va_iast hx hb hK hP hD hS 3 2 rgL5_b55ecbc rgT4_df3fd44 (vinI (by omega) (by omega)) dX9_review_173 (fun H locs hP9 hD9 hS9 => ?_)
              obtain ⟨y41, e_y41⟩ : ∃ y, (upd w78_3 x40.toNatClampNeg a2) = y := ⟨_, rfl⟩
              clear hP hD hS
              obtain ⟨hP, hD⟩ := rgS5_283009a (e := (a0_38, .inl (a0_38_c, 176, .inl y41))) hP9 hD9 (congrArg (fun z9 => (((a0_38, .inl (a0_38_c, 176, .inl z9)) : Nat × va_E))) e_y41)
              have hS := hS9; clear hP9 hD9 hS9
              have hr_y41 := RowOk.keep gx78_0 e_y41 (by omega) (by omega)
              have hk_y41 : KP 56 a0_38_f y41 := kp_step gx78_2 e_y41 (kI (by omega))
              refine lv_aload_n hx hb dX9_review_174 rfl (lv_at hl 2 rfl) ?_
              refine va_get (D := (dC, dI)) (ci := 8) (v := .ref a0_38) (C := RX9) (T := TX9) (N := 44) hx hb hts inlX9 hown hK hP 0 rgL5_a6879b9 rfl 38 (by decide) (hts (.fieldLink RX9 70 "ClosedUntilModel" "s" "[I") qw_502) (fun _ h9 => h9) rfl dX9_review_175 ?_
              refine lv_iload hx hb dX9_review_178 (lv_at hl 0 rfl) ?_
              refine lv_iconst (v := 2) hx hb dX9_review_180 (by decide) ?_
              refine lv_iload hx hb dX9_review_181 (lv_at hl 1 rfl) ?_
              refine lv_imul hx hb dX9_review_183 ?_
              refine lv_topi (fun x42 e_x42 => ?_)
              try have e_x42 := ti_mul e_x42 (show (2 : Int32).toInt = 2 by decide) rfl (by omega)
              refine lv_iadd hx hb dX9_review_184 ?_
              refine lv_topi (fun x43 e_x43 => ?_)
              try have e_x43 := ti_add e_x43 rfl rfl (by omega)
              refine lv_iconst (v := 1) hx hb dX9_review_185 (by decide) ?_
              refine lv_iadd hx hb dX9_review_186 ?_
              refine lv_topi (fun x44 e_x44 => ?_)
              try have e_x44 := ti_add e_x44 rfl (show (1 : Int32).toInt = 1 by decide) (by omega)
              refine lv_iload_n hx hb dX9_review_187 rfl (lv_at hl 5 rfl) ?_
              refine va_iast hx hb hK hP hD hS 3 2 rgL5_b55ecbc rgT4_df3fd44 (vinI (by omega) (by omega)) dX9_review_188 (fun H locs hP9 hD9 hS9 => ?_)
              obtain ⟨y45, e_y45⟩ : ∃ y, (upd y41 x44.toNatClampNeg a3) = y := ⟨_, rfl⟩
              clear hP hD hS
              obtain ⟨hP, hD⟩ := rgS5_283009a (e := (a0_38, .inl (a0_38_c, 176, .inl y45))) hP9 hD9 (congrArg (fun z9 => (((a0_38, .inl (a0_38_c, 176, .inl z9)) : Nat × va_E))) e_y45)
              have hS := hS9; clear hP9 hD9 hS9
              have hr_y45 := RowOk.keep hr_y41 e_y45 (by omega) (by omega)
              have hk_y45 : KP 56 a0_38_f y45 := kp_step hk_y41 e_y45 (kI (by omega))
              refine lv_aload_n hx hb dX9_review_189 rfl (lv_at hl 2 rfl) ?_
              refine va_get (D := (dC, dI)) (ci := 8) (v := .ref a0_38) (C := RX9) (T := TX9) (N := 44) hx hb hts inlX9 hown hK hP 0 rgL5_a6879b9 rfl 38 (by decide) (hts (.fieldLink RX9 70 "ClosedUntilModel" "s" "[I") qw_502) (fun _ h9 => h9) rfl dX9_review_190 ?_
              refine lv_bipush (v := 44) hx hb dX9_review_193 (by decide) ?_
              refine lv_iload_n hx hb dX9_review_195 rfl (lv_at hl 3 rfl) ?_
              refine lv_iadd hx hb dX9_review_196 ?_
              refine lv_topi (fun x46 e_x46 => ?_)
              try have e_x46 := ti_add e_x46 (show (44 : Int32).toInt = 44 by decide) rfl (by omega)
              refine lv_dup2_11 hx hb dX9_review_197 rfl rfl ?_
              refine va_iald hx hb hK hP 3 2 rgL5_b55ecbc rgT4_df3fd44 (vinI (by omega) (by omega)) dX9_review_198 ?_
              refine lv_topi (fun x47 e_x47 => ?_)
              have q_x47 := congrArg Int32.toInt e_x47
              have b_x47 := i32b x47
              have hm8 : x47 = x8 := by rw [e_x47, hk_y45 _ (clI (by omega) (by omega)), e_x8, clN, clN, show x46.toInt = x7.toInt by omega]
              have hm9 : x47.toInt = x8.toInt := by rw [hm8]
              refine lv_iconst (v := 1) hx hb dX9_review_199 (by decide) ?_
              refine lv_iadd hx hb dX9_review_200 ?_
              refine lv_topi (fun x48 e_x48 => ?_)
              try have e_x48 := ti_add e_x48 rfl (show (1 : Int32).toInt = 1 by decide) (by omega)
              refine va_iast hx hb hK hP hD hS 3 2 rgL5_b55ecbc rgT4_df3fd44 (vinI (by omega) (by omega)) dX9_review_201 (fun H locs hP9 hD9 hS9 => ?_)
              obtain ⟨y49, e_y49⟩ : ∃ y, (upd y45 x46.toNatClampNeg x48) = y := ⟨_, rfl⟩
              clear hP hD hS
              obtain ⟨hP, hD⟩ := rgS5_283009a (e := (a0_38, .inl (a0_38_c, 176, .inl y49))) hP9 hD9 (congrArg (fun z9 => (((a0_38, .inl (a0_38_c, 176, .inl z9)) : Nat × va_E))) e_y49)
              have hS := hS9; clear hP9 hD9 hS9
              have hr_y49 := RowOk.many hr_y45 e_y49 (by omega) (by omega) (by omega)
              refine lv_aload_n hx hb dX9_review_202 rfl (lv_at hl 2 rfl) ?_
              refine va_get (D := (dC, dI)) (ci := 8) (v := .ref a0_38) (C := RX9) (T := TX9) (N := 44) hx hb hts inlX9 hown hK hP 0 rgL5_a6879b9 rfl 38 (by decide) (hts (.fieldLink RX9 70 "ClosedUntilModel" "s" "[I") qw_502) (fun _ h9 => h9) rfl dX9_review_203 ?_
              refine lv_bipush (v := 44) hx hb dX9_review_206 (by decide) ?_
              refine lv_iload_n hx hb dX9_review_208 rfl (lv_at hl 3 rfl) ?_
              refine lv_iadd hx hb dX9_review_209 ?_
              refine lv_topi (fun x50 e_x50 => ?_)
              try have e_x50 := ti_add e_x50 (show (44 : Int32).toInt = 44 by decide) rfl (by omega)
              refine va_iald hx hb hK hP 3 2 rgL5_b55ecbc rgT4_df3fd44 (vinI (by omega) (by omega)) dX9_review_210 ?_
              refine lv_topi (fun x51 e_x51 => ?_)
              have q_x51 := congrArg Int32.toInt e_x51
              have b_x51 := i32b x51
              have qc0 : (0 : Int32).toInt = 0 := by decide
              refine W.widen (k := 0) (n := 0) (Nat.le_of_ble_eq_true rfl) (Nat.le_of_ble_eq_true rfl) ?_
              have hP9 := hP
              have hD9 := hD
              have hK9 := (rgK4_6738937 hK)
              have hf9_0 : (0 ≤ za0_40_12.toInt ∧ za0_40_12.toInt ≤ 12) := by omega
              have hf9_1 : (RowOk (a0_20_f 0).toInt y49 0) := hr_y49
              have hf9_2 : (MU (a0_20_f 0).toInt za0_39_f_13 za0_40_12) := by assumption
              exact W.iret (v := x51) hx hb hr (fun t ht hW => ⟨⟨x51, x51, rfl, rfl, 0, za0_40_12, y49, za0_39_f_13, hf9_0, hf9_1, hf9_2, atB ht hP9, va_K.moved hW.alike hK9, hD9⟩, hS.F ht⟩) hS.2.2 dX9_review_211
            · have c98_38 : ¬ (x37.toInt ≤ a2.toInt) := mt (cv_le rfl rfl).mpr c98_38
              refine lv_aload_n hx hb dX9_review_101 rfl (lv_at hl 2 rfl) ?_
              refine va_get (D := (dC, dI)) (ci := 8) (v := .ref a0_38) (C := RX9) (T := TX9) (N := 44) hx hb hts inlX9 hown hK hP 0 rgL5_a6879b9 rfl 38 (by decide) (hts (.fieldLink RX9 70 "ClosedUntilModel" "s" "[I") qw_502) (fun _ h9 => h9) rfl dX9_review_102 ?_
              refine lv_iload hx hb dX9_review_105 (lv_at hl 0 rfl) ?_
              refine lv_iconst (v := 2) hx hb dX9_review_107 (by decide) ?_
              refine lv_iload hx hb dX9_review_108 (lv_at hl 1 rfl) ?_
              refine lv_imul hx hb dX9_review_110 ?_
              refine lv_topi (fun x52 e_x52 => ?_)
              try have e_x52 := ti_mul e_x52 (show (2 : Int32).toInt = 2 by decide) rfl (by omega)
              refine lv_iadd hx hb dX9_review_111 ?_
              refine lv_topi (fun x53 e_x53 => ?_)
              try have e_x53 := ti_add e_x53 rfl rfl (by omega)
              refine lv_aload_n hx hb dX9_review_112 rfl (lv_at hl 2 rfl) ?_
              refine va_get (D := (dC, dI)) (ci := 8) (v := .ref a0_38) (C := RX9) (T := TX9) (N := 44) hx hb hts inlX9 hown hK hP 0 rgL5_a6879b9 rfl 38 (by decide) (hts (.fieldLink RX9 70 "ClosedUntilModel" "s" "[I") qw_502) (fun _ h9 => h9) rfl dX9_review_113 ?_
              refine lv_iload hx hb dX9_review_116 (lv_at hl 0 rfl) ?_
              refine lv_iconst (v := 2) hx hb dX9_review_118 (by decide) ?_
              refine lv_iload hx hb dX9_review_119 (lv_at hl 1 rfl) ?_
              refine lv_imul hx hb dX9_review_121 ?_
              refine lv_topi (fun x54 e_x54 => ?_)
              try have e_x54 := ti_mul e_x54 (show (2 : Int32).toInt = 2 by decide) rfl (by omega)
              refine lv_iadd hx hb dX9_review_122 ?_
              refine lv_topi (fun x55 e_x55 => ?_)
              try have e_x55 := ti_add e_x55 rfl rfl (by omega)
              refine lv_iconst (v := 2) hx hb dX9_review_123 (by decide) ?_
              refine lv_isub hx hb dX9_review_124 ?_
              refine lv_topi (fun x56 e_x56 => ?_)
              try have e_x56 := ti_sub e_x56 rfl (show (2 : Int32).toInt = 2 by decide) (by omega)
              refine va_iald hx hb hK hP 3 2 rgL5_b55ecbc rgT4_df3fd44 (vinI (by omega) (by omega)) dX9_review_125 ?_
              refine lv_topi (fun x57 e_x57 => ?_)
              have q_x57 := congrArg Int32.toInt e_x57
              have b_x57 := i32b x57
              refine va_iast hx hb hK hP hD hS 3 2 rgL5_b55ecbc rgT4_df3fd44 (vinI (by omega) (by omega)) dX9_review_126 (fun H locs hP9 hD9 hS9 => ?_)
              obtain ⟨y58, e_y58⟩ : ∃ y, (upd w78_3 x53.toNatClampNeg x57) = y := ⟨_, rfl⟩
              clear hP hD hS
              obtain ⟨hP, hD⟩ := rgS5_283009a (e := (a0_38, .inl (a0_38_c, 176, .inl y58))) hP9 hD9 (congrArg (fun z9 => (((a0_38, .inl (a0_38_c, 176, .inl z9)) : Nat × va_E))) e_y58)
              have hS := hS9; clear hP9 hD9 hS9
              have hr_y58 := RowOk.keep gx78_0 e_y58 (by omega) (by omega)
              have hk_y58 : KP 56 a0_38_f y58 := kp_step gx78_2 e_y58 (kI (by omega))
              refine lv_aload_n hx hb dX9_review_127 rfl (lv_at hl 2 rfl) ?_
              refine va_get (D := (dC, dI)) (ci := 8) (v := .ref a0_38) (C := RX9) (T := TX9) (N := 44) hx hb hts inlX9 hown hK hP 0 rgL5_a6879b9 rfl 38 (by decide) (hts (.fieldLink RX9 70 "ClosedUntilModel" "s" "[I") qw_502) (fun _ h9 => h9) rfl dX9_review_128 ?_
              refine lv_iload hx hb dX9_review_131 (lv_at hl 0 rfl) ?_
              refine lv_iconst (v := 2) hx hb dX9_review_133 (by decide) ?_
              refine lv_iload hx hb dX9_review_134 (lv_at hl 1 rfl) ?_
              refine lv_imul hx hb dX9_review_136 ?_
              refine lv_topi (fun x59 e_x59 => ?_)
              try have e_x59 := ti_mul e_x59 (show (2 : Int32).toInt = 2 by decide) rfl (by omega)
              refine lv_iadd hx hb dX9_review_137 ?_
              refine lv_topi (fun x60 e_x60 => ?_)
              try have e_x60 := ti_add e_x60 rfl rfl (by omega)
              refine lv_iconst (v := 1) hx hb dX9_review_138 (by decide) ?_
              refine lv_iadd hx hb dX9_review_139 ?_
              refine lv_topi (fun x61 e_x61 => ?_)
              try have e_x61 := ti_add e_x61 rfl (show (1 : Int32).toInt = 1 by decide) (by omega)
              refine lv_aload_n hx hb dX9_review_140 rfl (lv_at hl 2 rfl) ?_
              refine va_get (D := (dC, dI)) (ci := 8) (v := .ref a0_38) (C := RX9) (T := TX9) (N := 44) hx hb hts inlX9 hown hK hP 0 rgL5_a6879b9 rfl 38 (by decide) (hts (.fieldLink RX9 70 "ClosedUntilModel" "s" "[I") qw_502) (fun _ h9 => h9) rfl dX9_review_141 ?_
              refine lv_iload hx hb dX9_review_144 (lv_at hl 0 rfl) ?_
              refine lv_iconst (v := 2) hx hb dX9_review_146 (by decide) ?_
              refine lv_iload hx hb dX9_review_147 (lv_at hl 1 rfl) ?_
              refine lv_imul hx hb dX9_review_149 ?_
              refine lv_topi (fun x62 e_x62 => ?_)
              try have e_x62 := ti_mul e_x62 (show (2 : Int32).toInt = 2 by decide) rfl (by omega)
              refine lv_iadd hx hb dX9_review_150 ?_
              refine lv_topi (fun x63 e_x63 => ?_)
              try have e_x63 := ti_add e_x63 rfl rfl (by omega)
              refine lv_iconst (v := 1) hx hb dX9_review_151 (by decide) ?_
              refine lv_isub hx hb dX9_review_152 ?_
              refine lv_topi (fun x64 e_x64 => ?_)
              try have e_x64 := ti_sub e_x64 rfl (show (1 : Int32).toInt = 1 by decide) (by omega)
              refine va_iald hx hb hK hP 3 2 rgL5_b55ecbc rgT4_df3fd44 (vinI (by omega) (by omega)) dX9_review_153 ?_
              refine lv_topi (fun x65 e_x65 => ?_)
              have q_x65 := congrArg Int32.toInt e_x65
              have b_x65 := i32b x65
              refine va_iast hx hb hK hP hD hS 3 2 rgL5_b55ecbc rgT4_df3fd44 (vinI (by omega) (by omega)) dX9_review_154 (fun H locs hP9 hD9 hS9 => ?_)
              obtain ⟨y66, e_y66⟩ : ∃ y, (upd y58 x61.toNatClampNeg x65) = y := ⟨_, rfl⟩
              clear hP hD hS
              obtain ⟨hP, hD⟩ := rgS5_283009a (e := (a0_38, .inl (a0_38_c, 176, .inl y66))) hP9 hD9 (congrArg (fun z9 => (((a0_38, .inl (a0_38_c, 176, .inl z9)) : Nat × va_E))) e_y66)
              have hS := hS9; clear hP9 hD9 hS9
              have hr_y66 := RowOk.keep hr_y58 e_y66 (by omega) (by omega)
              have hk_y66 : KP 56 a0_38_f y66 := kp_step hk_y58 e_y66 (kI (by omega))
              obtain ⟨x67, e_x67⟩ : ∃ y : Int32, y = l78_4 + (-1) := ⟨_, rfl⟩
              refine lv_iinc (v := x67) (lv' := [(4, .int x67), (5, .int x19), (0, .ref a0), (1, .int a1), (2, .int a2), (3, .int a3)]) hx hb dX9_review_155 hl (k := 1) rfl (by rw [e_x67]; rfl) (by decide) rfl (fun ls hl => ?_)
              try have e_x67 := ti_add e_x67 rfl (show ((-1) : Int32).toInt = (-1) by decide) (by omega)
              refine lv_goto (tgt := 78) hx hb dX9_review_158 (by decide) ?_
              exact ih78 ((x67.toInt).toNat) _ _ _ (by omega) ⟨x67, y66, rfl, hr_y66, (by omega), hk_y66, lv_sub hl [1, 0, 2, 3, 4, 5] rfl, hP, hD, hS⟩
        · have c49_9 : x8.toInt = 5 := (cv_eq rfl (by decide)).mp c49_9
          refine lv_iconst (v := (-1)) hx hb dX9_review_52 (by decide) ?_
          have qcm1 : ((-1) : Int32).toInt = (-1) := by decide
          have qc0 : (0 : Int32).toInt = 0 := by decide
          refine W.widen (k := 0) (n := 0) (Nat.le_of_ble_eq_true rfl) (Nat.le_of_ble_eq_true rfl) ?_
          have hP9 := hP
          have hD9 := hD
          have hK9 := (rgK4_6738937 hK)
          have hf9_0 : (0 ≤ a0_40.toInt ∧ a0_40.toInt ≤ 12) := by omega
          have hf9_1 : (RowOk (a0_20_f 0).toInt a0_38_f 0) := hms
          have hf9_2 : (MU (a0_20_f 0).toInt a0_39_f a0_40) := by assumption
          exact W.iret (v := (-1)) hx hb hr (fun t ht hW => ⟨⟨(-1), (-1), rfl, rfl, 0, a0_40, a0_38_f, a0_39_f, hf9_0, hf9_1, hf9_2, atB ht hP9, va_K.moved hW.alike hK9, hD9⟩, hS.F ht⟩) hS.2.2 dX9_review_53
set_option maxHeartbeats 4000000 in
set_option maxRecDepth 100000 in
theorem k_X9_lift (l : Launch) (dC : Nat → ClassId) (dI : Nat → Nat → Nat) (g : Gv) (sz : Nat) (a0 : Nat) (a1 : Int32) (a2 : Int32) (a0_0 : Int32) (a0_1 : Int32) (a0_2 : Int32) (a0_3 : Int32) (a0_4 : Nat) (a0_5 : Int32) (a0_6 : Int32) (a0_7 : Int32) (a0_8 : Int32) (a0_9 : Int32) (a0_10 : Int32) (a0_11 : Int64) (a0_12 : Int32) (a0_13 : Int32) (a0_14 : Int32) (a0_15 : Int32) (a0_16 : Int32) (a0_17 : Int32) (a0_18 : Nat) (a0_19 : Nat) (a0_20 : Nat) (a0_21 : Nat) (a0_22 : Nat) (a0_23 : Nat) (a0_24 : Nat) (a0_25 : Nat) (a0_26 : Nat) (a0_27 : Nat) (a0_28 : Nat) (a0_29 : Nat) (a0_30 : Nat) (a0_31 : Nat) (a0_32 : Nat) (a0_33 : Nat) (a0_34 : Nat) (a0_35 : Nat) (a0_36 : Int64) (a0_37 : Int32) (a0_38 : Nat) (a0_39 : Nat) (a0_40 : Int32) (a0_41 : Nat) (a0_42 : Nat) (a0_43 : Nat) (a0_20_c : ClassId) (a0_20_f : Nat → Int32) (a0_21_c : ClassId) (a0_21_f : Nat → Int32) (a0_38_c : ClassId) (a0_38_f : Nat → Int32) (a0_39_c : ClassId) (a0_39_f : Nat → Int32) (h_a0_5 : 0 ≤ a0_5.toInt ∧ a0_5.toInt ≤ 1000) (h_a0_6 : 0 ≤ a0_6.toInt ∧ a0_6.toInt ≤ 1000) (h_a0_7 : 0 ≤ a0_7.toInt ∧ a0_7.toInt ≤ 1000) (h_a0_8 : 0 ≤ a0_8.toInt ∧ a0_8.toInt ≤ 1000) (h_a0_17 : 0 ≤ a0_17.toInt ∧ a0_17.toInt ≤ 1) (h_a0_37 : (-1) ≤ a0_37.toInt ∧ a0_37.toInt ≤ 23) (h_a0_40 : 0 ≤ a0_40.toInt ∧ a0_40.toInt ≤ 12) (h_a0_20_f : vr 0 24 a0_20_f) (h_a0_21_f : vr 0 12 a0_21_f) (hms : RowOk (a0_20_f 0).toInt a0_38_f 0) (hmu : MU (a0_20_f 0).toInt a0_39_f a0_40) : Met l yX9_lift (.code yX9_lift cX9_lift 4 (some .int) :: TBL) ({ frames := 2, cells := 0, slots := 0, locals := 46 }) (va_Pc [.ref a0, .int a1, .int a2] (fun U => U.heap.size = sz ∧ va_P (dC, dI) vwCl [(a0, .inr (8, [.int a0_0, .int a0_1, .int a0_2, .int a0_3, .ref a0_4, .int a0_5, .int a0_6, .int a0_7, .int a0_8, .int a0_9, .int a0_10, .long a0_11, .int a0_12, .int a0_13, .int a0_14, .int a0_15, .int a0_16, .int a0_17, .ref a0_18, .ref a0_19, .ref a0_20, .ref a0_21, .ref a0_22, .ref a0_23, .ref a0_24, .ref a0_25, .ref a0_26, .ref a0_27, .ref a0_28, .ref a0_29, .ref a0_30, .ref a0_31, .ref a0_32, .ref a0_33, .ref a0_34, .ref a0_35, .long a0_36, .int a0_37, .ref a0_38, .ref a0_39, .int a0_40, .ref a0_41, .ref a0_42, .ref a0_43])), (a0_20, .inl (a0_20_c, 2, .inl a0_20_f)), (a0_21, .inl (a0_21_c, 2, .inl a0_21_f)), (a0_38, .inl (a0_38_c, 176, .inl a0_38_f)), (a0_39, .inl (a0_39_c, 2112, .inl a0_39_f))] U.heap ∧ va_K (dC, dI) vwCl [(a0_20_c, .int), (a0_21_c, .int), (a0_38_c, .int), (a0_39_c, .int)] U ∧ va_D (fun _ => True) [(a0, .inr (8, [.int a0_0, .int a0_1, .int a0_2, .int a0_3, .ref a0_4, .int a0_5, .int a0_6, .int a0_7, .int a0_8, .int a0_9, .int a0_10, .long a0_11, .int a0_12, .int a0_13, .int a0_14, .int a0_15, .int a0_16, .int a0_17, .ref a0_18, .ref a0_19, .ref a0_20, .ref a0_21, .ref a0_22, .ref a0_23, .ref a0_24, .ref a0_25, .ref a0_26, .ref a0_27, .ref a0_28, .ref a0_29, .ref a0_30, .ref a0_31, .ref a0_32, .ref a0_33, .ref a0_34, .ref a0_35, .long a0_36, .int a0_37, .ref a0_38, .ref a0_39, .int a0_40, .ref a0_41, .ref a0_42, .ref a0_43])), (a0_20, .inl (a0_20_c, 2, .inl a0_20_f)), (a0_21, .inl (a0_21_c, 2, .inl a0_21_f)), (a0_38, .inl (a0_38_c, 176, .inl a0_38_f)), (a0_39, .inl (a0_39_c, 2112, .inl a0_39_f))] ∧ Ev g (va_A [(a0, .inr (8, [.int a0_0, .int a0_1, .int a0_2, .int a0_3, .ref a0_4, .int a0_5, .int a0_6, .int a0_7, .int a0_8, .int a0_9, .int a0_10, .long a0_11, .int a0_12, .int a0_13, .int a0_14, .int a0_15, .int a0_16, .int a0_17, .ref a0_18, .ref a0_19, .ref a0_20, .ref a0_21, .ref a0_22, .ref a0_23, .ref a0_24, .ref a0_25, .ref a0_26, .ref a0_27, .ref a0_28, .ref a0_29, .ref a0_30, .ref a0_31, .ref a0_32, .ref a0_33, .ref a0_34, .ref a0_35, .long a0_36, .int a0_37, .ref a0_38, .ref a0_39, .int a0_40, .ref a0_41, .ref a0_42, .ref a0_43])), (a0_20, .inl (a0_20_c, 2, .inl a0_20_f)), (a0_21, .inl (a0_21_c, 2, .inl a0_21_f)), (a0_38, .inl (a0_38_c, 176, .inl a0_38_f)), (a0_39, .inl (a0_39_c, 2112, .inl a0_39_f))] sz) U)) (va_Qi (fun (r : Int32) (u : Int32) => u = r) (fun (u : Int32) (t : State) => ∃ (za0_0 : Int32) (za0_40 : Int32) (za0_38_f : Nat → Int32) (za0_39_f : Nat → Int32), (0 ≤ za0_40.toInt ∧ za0_40.toInt ≤ 12) ∧ (RowOk (a0_20_f 0).toInt za0_38_f 0) ∧ (MU (a0_20_f 0).toInt za0_39_f za0_40) ∧ va_P (dC, dI) vwCl [(a0, .inr (8, [.int za0_0, .int a0_1, .int a0_2, .int a0_3, .ref a0_4, .int a0_5, .int a0_6, .int a0_7, .int a0_8, .int a0_9, .int a0_10, .long a0_11, .int a0_12, .int a0_13, .int a0_14, .int a0_15, .int a0_16, .int a0_17, .ref a0_18, .ref a0_19, .ref a0_20, .ref a0_21, .ref a0_22, .ref a0_23, .ref a0_24, .ref a0_25, .ref a0_26, .ref a0_27, .ref a0_28, .ref a0_29, .ref a0_30, .ref a0_31, .ref a0_32, .ref a0_33, .ref a0_34, .ref a0_35, .long a0_36, .int a0_37, .ref a0_38, .ref a0_39, .int za0_40, .ref a0_41, .ref a0_42, .ref a0_43])), (a0_20, .inl (a0_20_c, 2, .inl a0_20_f)), (a0_21, .inl (a0_21_c, 2, .inl a0_21_f)), (a0_38, .inl (a0_38_c, 176, .inl za0_38_f)), (a0_39, .inl (a0_39_c, 2112, .inl za0_39_f))] t.heap ∧ va_K (dC, dI) vwCl [] t ∧ va_D (va_A [(a0, .inr (8, [.int a0_0, .int a0_1, .int a0_2, .int a0_3, .ref a0_4, .int a0_5, .int a0_6, .int a0_7, .int a0_8, .int a0_9, .int a0_10, .long a0_11, .int a0_12, .int a0_13, .int a0_14, .int a0_15, .int a0_16, .int a0_17, .ref a0_18, .ref a0_19, .ref a0_20, .ref a0_21, .ref a0_22, .ref a0_23, .ref a0_24, .ref a0_25, .ref a0_26, .ref a0_27, .ref a0_28, .ref a0_29, .ref a0_30, .ref a0_31, .ref a0_32, .ref a0_33, .ref a0_34, .ref a0_35, .long a0_36, .int a0_37, .ref a0_38, .ref a0_39, .int a0_40, .ref a0_41, .ref a0_42, .ref a0_43])), (a0_20, .inl (a0_20_c, 2, .inl a0_20_f)), (a0_21, .inl (a0_21_c, 2, .inl a0_21_f)), (a0_38, .inl (a0_38_c, 176, .inl a0_38_f)), (a0_39, .inl (a0_39_c, 2112, .inl a0_39_f))] sz) [(a0, .inr (8, [.int za0_0, .int a0_1, .int a0_2, .int a0_3, .ref a0_4, .int a0_5, .int a0_6, .int a0_7, .int a0_8, .int a0_9, .int a0_10, .long a0_11, .int a0_12, .int a0_13, .int a0_14, .int a0_15, .int a0_16, .int a0_17, .ref a0_18, .ref a0_19, .ref a0_20, .ref a0_21, .ref a0_22, .ref a0_23, .ref a0_24, .ref a0_25, .ref a0_26, .ref a0_27, .ref a0_28, .ref a0_29, .ref a0_30, .ref a0_31, .ref a0_32, .ref a0_33, .ref a0_34, .ref a0_35, .long a0_36, .int a0_37, .ref a0_38, .ref a0_39, .int za0_40, .ref a0_41, .ref a0_42, .ref a0_43])), (a0_20, .inl (a0_20_c, 2, .inl a0_20_f)), (a0_21, .inl (a0_21_c, 2, .inl a0_21_f)), (a0_38, .inl (a0_38_c, 176, .inl za0_38_f)), (a0_39, .inl (a0_39_c, 2112, .inl za0_39_f))]) (va_A [(a0, .inr (8, [.int a0_0, .int a0_1, .int a0_2, .int a0_3, .ref a0_4, .int a0_5, .int a0_6, .int a0_7, .int a0_8, .int a0_9, .int a0_10, .long a0_11, .int a0_12, .int a0_13, .int a0_14, .int a0_15, .int a0_16, .int a0_17, .ref a0_18, .ref a0_19, .ref a0_20, .ref a0_21, .ref a0_22, .ref a0_23, .ref a0_24, .ref a0_25, .ref a0_26, .ref a0_27, .ref a0_28, .ref a0_29, .ref a0_30, .ref a0_31, .ref a0_32, .ref a0_33, .ref a0_34, .ref a0_35, .long a0_36, .int a0_37, .ref a0_38, .ref a0_39, .int a0_40, .ref a0_41, .ref a0_42, .ref a0_43])), (a0_20, .inl (a0_20_c, 2, .inl a0_20_f)), (a0_21, .inl (a0_21_c, 2, .inl a0_21_f)), (a0_38, .inl (a0_38_c, 176, .inl a0_38_f)), (a0_39, .inl (a0_39_c, 2112, .inl a0_39_f))] sz)) 0 0 (va_A [(a0, .inr (8, [.int a0_0, .int a0_1, .int a0_2, .int a0_3, .ref a0_4, .int a0_5, .int a0_6, .int a0_7, .int a0_8, .int a0_9, .int a0_10, .long a0_11, .int a0_12, .int a0_13, .int a0_14, .int a0_15, .int a0_16, .int a0_17, .ref a0_18, .ref a0_19, .ref a0_20, .ref a0_21, .ref a0_22, .ref a0_23, .ref a0_24, .ref a0_25, .ref a0_26, .ref a0_27, .ref a0_28, .ref a0_29, .ref a0_30, .ref a0_31, .ref a0_32, .ref a0_33, .ref a0_34, .ref a0_35, .long a0_36, .int a0_37, .ref a0_38, .ref a0_39, .int a0_40, .ref a0_41, .ref a0_42, .ref a0_43])), (a0_20, .inl (a0_20_c, 2, .inl a0_20_f)), (a0_21, .inl (a0_21_c, 2, .inl a0_21_f)), (a0_38, .inl (a0_38_c, 176, .inl a0_38_f)), (a0_39, .inl (a0_39_c, 2112, .inl a0_39_f))] sz) := by
  refine Met.ofW (cc := cX9_lift) (maxL := 4) (ret := (some .int)) (by decide) rfl ?_
  intro p e s m args below meth c s₁ B hml hv
  obtain ⟨rfl, hsz, hP, hK, hD0, hE⟩ := hv
  have hx := B.exec
  have hb := B.bytes
  have hr := B.returns
  have hts0 := atoms_spec (ws := (.code yX9_lift cX9_lift 4 (some .int) :: TBL)) B.pre
  have hts := fun (w : Cond) (h : w ∈ TBL) => hts0 w (List.mem_cons_of_mem _ h)
  have hown : s.vm.findClass RX9 = some m.cls := findClass_of_methodNamed B.named
  have hlocks := B.notSynchronized
  have hN := hE.1
  subst hsz
  have hD := hD0.self (sz := s.heap.size)
  generalize hAe : va_A [(a0, .inr (8, [.int a0_0, .int a0_1, .int a0_2, .int a0_3, .ref a0_4, .int a0_5, .int a0_6, .int a0_7, .int a0_8, .int a0_9, .int a0_10, .long a0_11, .int a0_12, .int a0_13, .int a0_14, .int a0_15, .int a0_16, .int a0_17, .ref a0_18, .ref a0_19, .ref a0_20, .ref a0_21, .ref a0_22, .ref a0_23, .ref a0_24, .ref a0_25, .ref a0_26, .ref a0_27, .ref a0_28, .ref a0_29, .ref a0_30, .ref a0_31, .ref a0_32, .ref a0_33, .ref a0_34, .ref a0_35, .long a0_36, .int a0_37, .ref a0_38, .ref a0_39, .int a0_40, .ref a0_41, .ref a0_42, .ref a0_43])), (a0_20, .inl (a0_20_c, 2, .inl a0_20_f)), (a0_21, .inl (a0_21_c, 2, .inl a0_21_f)), (a0_38, .inl (a0_38_c, 176, .inl a0_38_f)), (a0_39, .inl (a0_39_c, 2112, .inl a0_39_f))] s.heap.size = A at hD hE ⊢
  have hA : ∀ q : Nat, s.heap.size ≤ q → A q := fun q h => by rw [← hAe]; exact Or.inr h
  have hS : va_S A s.heap s.heap [] := va_S.rf
  replace hP : va_P (dC, dI) vwCl [(a0, .inr (8, [.int a0_0, .int a0_1, .int a0_2, .int a0_3, .ref a0_4, .int a0_5, .int a0_6, .int a0_7, .int a0_8, .int a0_9, .int a0_10, .long a0_11, .int a0_12, .int a0_13, .int a0_14, .int a0_15, .int a0_16, .int a0_17, .ref a0_18, .ref a0_19, .ref a0_20, .ref a0_21, .ref a0_22, .ref a0_23, .ref a0_24, .ref a0_25, .ref a0_26, .ref a0_27, .ref a0_28, .ref a0_29, .ref a0_30, .ref a0_31, .ref a0_32, .ref a0_33, .ref a0_34, .ref a0_35, .long a0_36, .int a0_37, .ref a0_38, .ref a0_39, .int a0_40, .ref a0_41, .ref a0_42, .ref a0_43])), (a0_20, .inl (a0_20_c, 2, .inl a0_20_f)), (a0_21, .inl (a0_21_c, 2, .inl a0_21_f)), (a0_38, .inl (a0_38_c, 176, .inl a0_38_f)), (a0_39, .inl (a0_39_c, 2112, .inl a0_39_f))] s.heap := hP
  have hl := lv_entry ([.ref a0, .int a1, .int a2]) (n := 4) (Nat.le_of_ble_eq_true rfl)
  rw [lg_entry_eq]
  generalize (lg_sl ([.ref a0, .int a1, .int a2]) ++ List.replicate (4 - (lg_sl ([.ref a0, .int a1, .int a2])).length) Slot.unset).toArray = ls at hl ⊢
  have hl : lv_has ls 4 [(0, .ref a0), (1, .int a1), (2, .int a2)] := hl
  have b_a1 := i32b a1
  have b_a2 := i32b a2
  have b_a0_0 := i32b a0_0
  have b_a0_1 := i32b a0_1
  have b_a0_2 := i32b a0_2
  have b_a0_3 := i32b a0_3
  have b_a0_9 := i32b a0_9
  have b_a0_10 := i32b a0_10
  have b_a0_12 := i32b a0_12
  have b_a0_13 := i32b a0_13
  have b_a0_14 := i32b a0_14
  have b_a0_15 := i32b a0_15
  have b_a0_16 := i32b a0_16
  have hp20 := vr_at h_a0_20_f (k := 0) rfl
  have hp21 := vr_at h_a0_21_f (k := 0) rfl
  refine lv_aload_n hx hb dX9_lift_0 rfl (lv_at hl 0 rfl) ?_
  refine lv_iconst (v := 0) hx hb dX9_lift_1 (by decide) ?_
  refine va_put (D := (dC, dI)) (ci := 8) (v := .int 0) (ty := .int) (C := RX9) (T := TX9) (N := 44) hx hb hts inlX9 tyX9 tyX9_ok nmX9 hown hK hP hD hS 0 rgL5_a6879b9 rfl 0 (by decide) (hts (.fieldLink RX9 85 "ClosedUntilModel" "thrown" "I") qw_408) (fun _ h9 => h9) rfl (by decide +kernel) rfl rfl (Nat.le_of_ble_eq_true rfl) dX9_lift_2 (fun H locs hP9 hD9 hS9 => ?_)
  clear hP hD hS
  obtain ⟨hP, hD⟩ := rgS5_283d4d4 (e := (a0, .inr (8, [.int 0, .int a0_1, .int a0_2, .int a0_3, .ref a0_4, .int a0_5, .int a0_6, .int a0_7, .int a0_8, .int a0_9, .int a0_10, .long a0_11, .int a0_12, .int a0_13, .int a0_14, .int a0_15, .int a0_16, .int a0_17, .ref a0_18, .ref a0_19, .ref a0_20, .ref a0_21, .ref a0_22, .ref a0_23, .ref a0_24, .ref a0_25, .ref a0_26, .ref a0_27, .ref a0_28, .ref a0_29, .ref a0_30, .ref a0_31, .ref a0_32, .ref a0_33, .ref a0_34, .ref a0_35, .long a0_36, .int a0_37, .ref a0_38, .ref a0_39, .int a0_40, .ref a0_41, .ref a0_42, .ref a0_43]))) hP9 hD9 rfl
  have hS := hS9; clear hP9 hD9 hS9
  refine lv_aload_n hx hb dX9_lift_5 rfl (lv_at hl 0 rfl) ?_
  refine lv_iload_n hx hb dX9_lift_6 rfl (lv_at hl 1 rfl) ?_
  have qc0 : (0 : Int32).toInt = 0 := by decide
  have hPc := (rgP5_54fd6a0 hP)
  have hKc := (rgK4_2a33748 hK)
  refine vp_callSi ((va_runV (As := [.int a1]) (rest := []) ⟨hx, hb, hml, hown, hts⟩ (k_X9_isClosure l dC dI g (a0) (a1) (0) (a0_1) (a0_2) (a0_3) (a0_4) (a0_5) (a0_6) (a0_7) (a0_8) (a0_9) (a0_10) (a0_11) (a0_12) (a0_13) (a0_14) (a0_15) (a0_16) (a0_17) (a0_18) (a0_19) (a0_20) (a0_21) (a0_22) (a0_23) (a0_24) (a0_25) (a0_26) (a0_27) (a0_28) (a0_29) (a0_30) (a0_31) (a0_32) (a0_33) (a0_34) (a0_35) (a0_36) (a0_37) (a0_38) (a0_39) (a0_40) (a0_41) (a0_42) (a0_43) (a0_21_c) (a0_21_f) (by omega) (by omega) (by omega) (by omega) (by omega) (by omega) (by omega) h_a0_21_f) (cwV 1 hts (gwV qw_618 qw_619 qw_620 qw_386 qw_617) rfl rfl rfl (by decide +kernel) ⟨Nat.le_of_ble_eq_true rfl, Nat.le_of_ble_eq_true rfl⟩) ⟨fun a U g9 mk q => ⟨q.1, q.2.1, va_K.moved (u := U) (U := U.calling g9 mk a) (Vm.Alike.refl U.vm) q.2.2.1, Ev.bl q.2.2.2⟩, va_recv hK hP (ci := 8) (q0 := 0) rfl rgL5_a6879b9, fun U hU hW => ⟨rfl, atB hU hPc, va_K.moved hW.alike hKc, hE.go hS (fun _ h => h.elim) hU hW⟩⟩ rfl rfl hl.1 rfl (lv_room (Nat.le_of_ble_eq_true rfl)) dX9_lift_7 ⟨Nat.le_of_ble_eq_true rfl, Nat.le_of_ble_eq_true rfl⟩)).run (fun r1 h_r1 => ?_)
  have h_r1 : (r1 = 0 ∨ r1 = 1) ∧ ((r1.toInt = 1 ∧ 0 ≤ a1.toInt ∧ a1.toInt < (a0_21_f 0).toInt) ∨ r1.toInt = 0) := h_r1
  have b_r1 := z01 (show r1 = 0 ∨ r1 = 1 from h_r1.1)
  refine lv_if_eq (tgt := 27) hx hb dX9_lift_10 (by decide) (fun c10_2 => ?_) (fun c10_2 => ?_)
  · have c10_2 : r1.toInt = 0 := (cv_eq rfl (by decide)).mp c10_2
    refine lv_bipush (v := (-2)) hx hb dX9_lift_27 (by decide) ?_
    have qcm2 : ((-2) : Int32).toInt = (-2) := by decide
    have qc0 : (0 : Int32).toInt = 0 := by decide
    refine W.widen (k := 0) (n := 0) (Nat.le_of_ble_eq_true rfl) (Nat.le_of_ble_eq_true rfl) ?_
    have hP9 := hP
    have hD9 := hD
    have hK9 := (rgK4_6738937 hK)
    have hf9_0 : (0 ≤ a0_40.toInt ∧ a0_40.toInt ≤ 12) := by omega
    have hf9_1 : (RowOk (a0_20_f 0).toInt a0_38_f 0) := hms
    have hf9_2 : (MU (a0_20_f 0).toInt a0_39_f a0_40) := by assumption
    exact W.iret (v := (-2)) hx hb hr (fun t ht hW => ⟨⟨(-2), (-2), rfl, rfl, 0, a0_40, a0_38_f, a0_39_f, hf9_0, hf9_1, hf9_2, atB ht hP9, va_K.moved hW.alike hK9, hD9⟩, hS.F ht⟩) hS.2.2 dX9_lift_29
  · have c10_2 : ¬ (r1.toInt = 0) := mt (cv_eq rfl (by decide)).mpr c10_2
    refine lv_iload_n hx hb dX9_lift_13 rfl (lv_at hl 2 rfl) ?_
    refine lv_i2l hx hb dX9_lift_14 rfl ?_
    refine lv_ldc2 (v := (-1)) hx hb hown (hts (.constantLong RX9 376 (-1)) qw_640) dX9_lift_15 ?_
    refine lv_ldc2 (v := 219144) hx hb hown (hts (.constantLong RX9 129 (219144)) qw_447) dX9_lift_18 ?_
    have hPc := (rgP5_7f34564 hP)
    have hKc := (rgK4_6738937 hK)
    refine vp_callSi ((va_runS (As := [.long (a2.toInt64), .long (-1), .long 219144]) (rest := []) ⟨hx, hb, hml, hown, hts⟩ (k_X9_within l dC dI g ((a2.toInt64)) ((-1)) (219144) (a2.toInt) ((-1)) (219144) (w_li rfl) (by decide) (by decide)) (va_cwS 3 hts (gwS qw_444 qw_445 qw_386 qw_443) rfl rfl rfl (by decide +kernel) ⟨Nat.le_of_ble_eq_true rfl, Nat.le_of_ble_eq_true rfl⟩) ⟨fun a U g9 mk q => ⟨q.1, q.2.1, va_K.moved (u := U) (U := U.calling g9 mk a) (Vm.Alike.refl U.vm) q.2.2.1, Ev.bl q.2.2.2⟩, fun U hU hW => ⟨rfl, atB hU hPc, va_K.moved hW.alike hKc, hE.go hS (fun _ h => h.elim) hU hW⟩⟩ rfl rfl hl.1 rfl (lv_room (Nat.le_of_ble_eq_true rfl)) dX9_lift_21 ⟨Nat.le_of_ble_eq_true rfl, Nat.le_of_ble_eq_true rfl⟩)).run (fun r3 h_r3 => ?_)
    have h_r3 : (r3 = 0 ∨ r3 = 1) ∧ ((r3.toInt = 1 ∧ (-1) ≤ a2.toInt ∧ a2.toInt ≤ 219144) ∨ (r3.toInt = 0 ∧ ¬ ((-1) ≤ a2.toInt ∧ a2.toInt ≤ 219144))) := h_r3
    have b_r3 := z01 h_r3.1
    refine lv_if_ne (tgt := 30) hx hb dX9_lift_24 (by decide) (fun c24_4 => ?_) (fun c24_4 => ?_)
    · have c24_4 : ¬ (r3.toInt = 0) := mt (cv_eq rfl (by decide)).mpr c24_4
      refine lv_aload_n hx hb dX9_lift_30 rfl (lv_at hl 0 rfl) ?_
      have qc0 : (0 : Int32).toInt = 0 := by decide
      have hPc := (rgP5_93b6ef8 hP)
      have hKc := (rgK4_30a4728 hK)
      have hDc := (rgD5_79bae6c hD)
      have hFc := freeW hDc hS hA
      refine va_callv (va_runV (As := []) (rest := []) ⟨hx, hb, hml, hown, hts⟩ (k_X9_keeps l dC dI g H.size (a0) (0) (a0_1) (a0_2) (a0_3) (a0_4) (a0_5) (a0_6) (a0_7) (a0_8) (a0_9) (a0_10) (a0_11) (a0_12) (a0_13) (a0_14) (a0_15) (a0_16) (a0_17) (a0_18) (a0_19) (a0_20) (a0_21) (a0_22) (a0_23) (a0_24) (a0_25) (a0_26) (a0_27) (a0_28) (a0_29) (a0_30) (a0_31) (a0_32) (a0_33) (a0_34) (a0_35) (a0_36) (a0_37) (a0_38) (a0_39) (a0_40) (a0_41) (a0_42) (a0_43) (a0_38_c) (a0_38_f) (a0_39_c) (a0_39_f) ((a0_20_f 0).toInt) (by omega) (by omega) (by omega) (by omega) (by omega) (by omega) (by omega) (by omega) (by assumption) (by assumption)) (cwV 0 hts (gwV qw_651 qw_652 qw_653 qw_386 qw_650) rfl rfl rfl (by decide +kernel) ⟨Nat.le_of_ble_eq_true rfl, Nat.le_of_ble_eq_true rfl⟩) ⟨fun a U g9 mk q => ⟨q.1, q.2.1, q.2.2.1, va_K.moved (u := U) (U := U.calling g9 mk a) (Vm.Alike.refl U.vm) q.2.2.2.1, q.2.2.2.2.1, Ev.bl q.2.2.2.2.2⟩, va_recv hK hP (ci := 8) (q0 := 0) rfl rgL5_a6879b9, fun U hU hW => ⟨rfl, by rw [hU], atB hU hPc, va_K.moved hW.alike hKc, hDc.weaken (fun _ _ _ _ => trivial), hE.go hS hFc hU hW⟩⟩ rfl rfl hl.1 rfl (lv_room (Nat.le_of_ble_eq_true rfl)) dX9_lift_31 ⟨Nat.le_of_ble_eq_true rfl, Nat.le_of_ble_eq_true rfl⟩) hS (fun q _ h => hFc q h) hFc (fun u5 t H1 locs ht hvm h_u5 hB hz1 hk1 hS => ?_)
      obtain ⟨za0_40_7, za0_39_f_8, hF9, hF10, hP1, hK1, hD1⟩ := hB
      have hK1 := va_K.moved hvm.symm hK1
      have hJ9 := rgJ5_eb07d49 hP hD hk1 hFc (atH ht hP1) hD1
      clear hP hD hPc hKc hDc hFc hP1 hD1 hk1 hz1
      obtain ⟨hP, hD⟩ := hJ9
      clear hK1
      generalize H1 = H at hP hS ⊢
      refine W.widen (k := 0) (n := 0) (Nat.le_of_ble_eq_true rfl) (Nat.le_of_ble_eq_true rfl) ?_
      refine lv_aload_n hx hb dX9_lift_34 rfl (lv_at hl 0 rfl) ?_
      refine va_get (D := (dC, dI)) (ci := 8) (v := .ref a0_38) (C := RX9) (T := TX9) (N := 44) hx hb hts inlX9 hown hK hP 0 rgL5_a6879b9 rfl 38 (by decide) (hts (.fieldLink RX9 70 "ClosedUntilModel" "s" "[I") qw_502) (fun _ h9 => h9) rfl dX9_lift_35 ?_
      refine lv_bipush (v := 32) hx hb dX9_lift_38 (by decide) ?_
      refine lv_iload_n hx hb dX9_lift_40 rfl (lv_at hl 1 rfl) ?_
      refine lv_iadd hx hb dX9_lift_41 ?_
      refine lv_topi (fun x11 e_x11 => ?_)
      try have e_x11 := ti_add e_x11 (show (32 : Int32).toInt = 32 by decide) rfl (by omega)
      refine va_iald hx hb hK hP 3 2 rgL5_b55ecbc rgT4_df3fd44 (vinI (by omega) (by omega)) dX9_lift_42 ?_
      refine lv_topi (fun x12 e_x12 => ?_)
      have q_x12 := congrArg Int32.toInt e_x12
      have b_x12 := i32b x12
      refine lv_istore_n (lv' := [(3, .int x12), (0, .ref a0), (1, .int a1), (2, .int a2)]) hx hb dX9_lift_43 rfl hl (by decide) rfl (fun ls hl => ?_)
      refine lv_aload_n hx hb dX9_lift_44 rfl (lv_at hl 1 rfl) ?_
      refine va_get (D := (dC, dI)) (ci := 8) (v := .ref a0_38) (C := RX9) (T := TX9) (N := 44) hx hb hts inlX9 hown hK hP 0 rgL5_a6879b9 rfl 38 (by decide) (hts (.fieldLink RX9 70 "ClosedUntilModel" "s" "[I") qw_502) (fun _ h9 => h9) rfl dX9_lift_45 ?_
      refine lv_bipush (v := 32) hx hb dX9_lift_48 (by decide) ?_
      refine lv_iload_n hx hb dX9_lift_50 rfl (lv_at hl 2 rfl) ?_
      refine lv_iadd hx hb dX9_lift_51 ?_
      refine lv_topi (fun x13 e_x13 => ?_)
      try have e_x13 := ti_add e_x13 (show (32 : Int32).toInt = 32 by decide) rfl (by omega)
      refine lv_iload_n hx hb dX9_lift_52 rfl (lv_at hl 3 rfl) ?_
      refine va_iast hx hb hK hP hD hS 3 2 rgL5_b55ecbc rgT4_df3fd44 (vinI (by omega) (by omega)) dX9_lift_53 (fun H locs hP9 hD9 hS9 => ?_)
      obtain ⟨y14, e_y14⟩ : ∃ y, (upd a0_38_f x13.toNatClampNeg a2) = y := ⟨_, rfl⟩
      clear hP hD hS
      obtain ⟨hP, hD⟩ := rgS5_283009a (e := (a0_38, .inl (a0_38_c, 176, .inl y14))) hP9 hD9 (congrArg (fun z9 => (((a0_38, .inl (a0_38_c, 176, .inl z9)) : Nat × va_E))) e_y14)
      have hS := hS9; clear hP9 hD9 hS9
      refine lv_iload_n hx hb dX9_lift_54 rfl (lv_at hl 0 rfl) ?_
      have qc0 : (0 : Int32).toInt = 0 := by decide
      refine W.widen (k := 0) (n := 0) (Nat.le_of_ble_eq_true rfl) (Nat.le_of_ble_eq_true rfl) ?_
      have hP9 := hP
      have hD9 := hD
      have hK9 := (rgK4_6738937 hK)
      have hf9_0 : (0 ≤ za0_40_7.toInt ∧ za0_40_7.toInt ≤ 12) := by omega
      have hf9_1 : (RowOk (a0_20_f 0).toInt y14 0) := RowOk.keep hms e_y14 (by omega) (by omega)
      have hf9_2 : (MU (a0_20_f 0).toInt za0_39_f_8 za0_40_7) := by assumption
      exact W.iret (v := x12) hx hb hr (fun t ht hW => ⟨⟨x12, x12, rfl, rfl, 0, za0_40_7, y14, za0_39_f_8, hf9_0, hf9_1, hf9_2, atB ht hP9, va_K.moved hW.alike hK9, hD9⟩, hS.F ht⟩) hS.2.2 dX9_lift_55
    · have c24_4 : r3.toInt = 0 := (cv_eq rfl (by decide)).mp c24_4
      refine lv_bipush (v := (-2)) hx hb dX9_lift_27 (by decide) ?_
      have qcm2 : ((-2) : Int32).toInt = (-2) := by decide
      have qc0 : (0 : Int32).toInt = 0 := by decide
      refine W.widen (k := 0) (n := 0) (Nat.le_of_ble_eq_true rfl) (Nat.le_of_ble_eq_true rfl) ?_
      have hP9 := hP
      have hD9 := hD
      have hK9 := (rgK4_6738937 hK)
      have hf9_0 : (0 ≤ a0_40.toInt ∧ a0_40.toInt ≤ 12) := by omega
      have hf9_1 : (RowOk (a0_20_f 0).toInt a0_38_f 0) := hms
      have hf9_2 : (MU (a0_20_f 0).toInt a0_39_f a0_40) := by assumption
      exact W.iret (v := (-2)) hx hb hr (fun t ht hW => ⟨⟨(-2), (-2), rfl, rfl, 0, a0_40, a0_38_f, a0_39_f, hf9_0, hf9_1, hf9_2, atB ht hP9, va_K.moved hW.alike hK9, hD9⟩, hS.F ht⟩) hS.2.2 dX9_lift_29
set_option maxHeartbeats 4000000 in
set_option maxRecDepth 100000 in
theorem k_X9_died (l : Launch) (dC : Nat → ClassId) (dI : Nat → Nat → Nat) (g : Gv) (sz : Nat) (a0 : Nat) (a1 : Int32) (a2 : Int32) (a0_0 : Int32) (a0_1 : Int32) (a0_2 : Int32) (a0_3 : Int32) (a0_4 : Nat) (a0_5 : Int32) (a0_6 : Int32) (a0_7 : Int32) (a0_8 : Int32) (a0_9 : Int32) (a0_10 : Int32) (a0_11 : Int64) (a0_12 : Int32) (a0_13 : Int32) (a0_14 : Int32) (a0_15 : Int32) (a0_16 : Int32) (a0_17 : Int32) (a0_18 : Nat) (a0_19 : Nat) (a0_20 : Nat) (a0_21 : Nat) (a0_22 : Nat) (a0_23 : Nat) (a0_24 : Nat) (a0_25 : Nat) (a0_26 : Nat) (a0_27 : Nat) (a0_28 : Nat) (a0_29 : Nat) (a0_30 : Nat) (a0_31 : Nat) (a0_32 : Nat) (a0_33 : Nat) (a0_34 : Nat) (a0_35 : Nat) (a0_36 : Int64) (a0_37 : Int32) (a0_38 : Nat) (a0_39 : Nat) (a0_40 : Int32) (a0_41 : Nat) (a0_42 : Nat) (a0_43 : Nat) (a0_18_c : ClassId) (a0_18_f : Nat → Int32) (a0_20_c : ClassId) (a0_20_f : Nat → Int32) (a0_23_c : ClassId) (a0_23_f : Nat → Int32) (a0_38_c : ClassId) (a0_38_f : Nat → Int32) (a0_39_c : ClassId) (a0_39_f : Nat → Int32) (h_a0_5 : 0 ≤ a0_5.toInt ∧ a0_5.toInt ≤ 1000) (h_a0_6 : 0 ≤ a0_6.toInt ∧ a0_6.toInt ≤ 1000) (h_a0_7 : 0 ≤ a0_7.toInt ∧ a0_7.toInt ≤ 1000) (h_a0_8 : 0 ≤ a0_8.toInt ∧ a0_8.toInt ≤ 1000) (h_a0_17 : 0 ≤ a0_17.toInt ∧ a0_17.toInt ≤ 1) (h_a0_37 : (-1) ≤ a0_37.toInt ∧ a0_37.toInt ≤ 23) (h_a0_40 : 0 ≤ a0_40.toInt ∧ a0_40.toInt ≤ 12) (h_a0_18_f : vr 0 8 a0_18_f) (h_a0_20_f : vr 0 24 a0_20_f) (hms : RowOk (a0_20_f 0).toInt a0_38_f 0) (hmu : MU (a0_20_f 0).toInt a0_39_f a0_40) : Met l yX9_died (.code yX9_died cX9_died 4 (some .int) :: TBL) ({ frames := 2, cells := 0, slots := 0, locals := 46 }) (va_Pc [.ref a0, .int a1, .int a2] (fun U => U.heap.size = sz ∧ va_P (dC, dI) vwCl [(a0, .inr (8, [.int a0_0, .int a0_1, .int a0_2, .int a0_3, .ref a0_4, .int a0_5, .int a0_6, .int a0_7, .int a0_8, .int a0_9, .int a0_10, .long a0_11, .int a0_12, .int a0_13, .int a0_14, .int a0_15, .int a0_16, .int a0_17, .ref a0_18, .ref a0_19, .ref a0_20, .ref a0_21, .ref a0_22, .ref a0_23, .ref a0_24, .ref a0_25, .ref a0_26, .ref a0_27, .ref a0_28, .ref a0_29, .ref a0_30, .ref a0_31, .ref a0_32, .ref a0_33, .ref a0_34, .ref a0_35, .long a0_36, .int a0_37, .ref a0_38, .ref a0_39, .int a0_40, .ref a0_41, .ref a0_42, .ref a0_43])), (a0_18, .inl (a0_18_c, 2, .inl a0_18_f)), (a0_20, .inl (a0_20_c, 2, .inl a0_20_f)), (a0_23, .inl (a0_23_c, 16, .inl a0_23_f)), (a0_38, .inl (a0_38_c, 176, .inl a0_38_f)), (a0_39, .inl (a0_39_c, 2112, .inl a0_39_f))] U.heap ∧ va_K (dC, dI) vwCl [(a0_18_c, .int), (a0_20_c, .int), (a0_23_c, .int), (a0_38_c, .int), (a0_39_c, .int)] U ∧ va_D (fun _ => True) [(a0, .inr (8, [.int a0_0, .int a0_1, .int a0_2, .int a0_3, .ref a0_4, .int a0_5, .int a0_6, .int a0_7, .int a0_8, .int a0_9, .int a0_10, .long a0_11, .int a0_12, .int a0_13, .int a0_14, .int a0_15, .int a0_16, .int a0_17, .ref a0_18, .ref a0_19, .ref a0_20, .ref a0_21, .ref a0_22, .ref a0_23, .ref a0_24, .ref a0_25, .ref a0_26, .ref a0_27, .ref a0_28, .ref a0_29, .ref a0_30, .ref a0_31, .ref a0_32, .ref a0_33, .ref a0_34, .ref a0_35, .long a0_36, .int a0_37, .ref a0_38, .ref a0_39, .int a0_40, .ref a0_41, .ref a0_42, .ref a0_43])), (a0_18, .inl (a0_18_c, 2, .inl a0_18_f)), (a0_20, .inl (a0_20_c, 2, .inl a0_20_f)), (a0_23, .inl (a0_23_c, 16, .inl a0_23_f)), (a0_38, .inl (a0_38_c, 176, .inl a0_38_f)), (a0_39, .inl (a0_39_c, 2112, .inl a0_39_f))] ∧ Ev g (va_A [(a0, .inr (8, [.int a0_0, .int a0_1, .int a0_2, .int a0_3, .ref a0_4, .int a0_5, .int a0_6, .int a0_7, .int a0_8, .int a0_9, .int a0_10, .long a0_11, .int a0_12, .int a0_13, .int a0_14, .int a0_15, .int a0_16, .int a0_17, .ref a0_18, .ref a0_19, .ref a0_20, .ref a0_21, .ref a0_22, .ref a0_23, .ref a0_24, .ref a0_25, .ref a0_26, .ref a0_27, .ref a0_28, .ref a0_29, .ref a0_30, .ref a0_31, .ref a0_32, .ref a0_33, .ref a0_34, .ref a0_35, .long a0_36, .int a0_37, .ref a0_38, .ref a0_39, .int a0_40, .ref a0_41, .ref a0_42, .ref a0_43])), (a0_18, .inl (a0_18_c, 2, .inl a0_18_f)), (a0_20, .inl (a0_20_c, 2, .inl a0_20_f)), (a0_23, .inl (a0_23_c, 16, .inl a0_23_f)), (a0_38, .inl (a0_38_c, 176, .inl a0_38_f)), (a0_39, .inl (a0_39_c, 2112, .inl a0_39_f))] sz) U)) (va_Qi (fun (r : Int32) (u : Int32) => u = r) (fun (u : Int32) (t : State) => ∃ (za0_0 : Int32) (za0_40 : Int32) (za0_38_f : Nat → Int32) (za0_39_f : Nat → Int32), (0 ≤ za0_40.toInt ∧ za0_40.toInt ≤ 12) ∧ (RowOk (a0_20_f 0).toInt za0_38_f 0) ∧ (MU (a0_20_f 0).toInt za0_39_f za0_40) ∧ va_P (dC, dI) vwCl [(a0, .inr (8, [.int za0_0, .int a0_1, .int a0_2, .int a0_3, .ref a0_4, .int a0_5, .int a0_6, .int a0_7, .int a0_8, .int a0_9, .int a0_10, .long a0_11, .int a0_12, .int a0_13, .int a0_14, .int a0_15, .int a0_16, .int a0_17, .ref a0_18, .ref a0_19, .ref a0_20, .ref a0_21, .ref a0_22, .ref a0_23, .ref a0_24, .ref a0_25, .ref a0_26, .ref a0_27, .ref a0_28, .ref a0_29, .ref a0_30, .ref a0_31, .ref a0_32, .ref a0_33, .ref a0_34, .ref a0_35, .long a0_36, .int a0_37, .ref a0_38, .ref a0_39, .int za0_40, .ref a0_41, .ref a0_42, .ref a0_43])), (a0_18, .inl (a0_18_c, 2, .inl a0_18_f)), (a0_20, .inl (a0_20_c, 2, .inl a0_20_f)), (a0_23, .inl (a0_23_c, 16, .inl a0_23_f)), (a0_38, .inl (a0_38_c, 176, .inl za0_38_f)), (a0_39, .inl (a0_39_c, 2112, .inl za0_39_f))] t.heap ∧ va_K (dC, dI) vwCl [] t ∧ va_D (va_A [(a0, .inr (8, [.int a0_0, .int a0_1, .int a0_2, .int a0_3, .ref a0_4, .int a0_5, .int a0_6, .int a0_7, .int a0_8, .int a0_9, .int a0_10, .long a0_11, .int a0_12, .int a0_13, .int a0_14, .int a0_15, .int a0_16, .int a0_17, .ref a0_18, .ref a0_19, .ref a0_20, .ref a0_21, .ref a0_22, .ref a0_23, .ref a0_24, .ref a0_25, .ref a0_26, .ref a0_27, .ref a0_28, .ref a0_29, .ref a0_30, .ref a0_31, .ref a0_32, .ref a0_33, .ref a0_34, .ref a0_35, .long a0_36, .int a0_37, .ref a0_38, .ref a0_39, .int a0_40, .ref a0_41, .ref a0_42, .ref a0_43])), (a0_18, .inl (a0_18_c, 2, .inl a0_18_f)), (a0_20, .inl (a0_20_c, 2, .inl a0_20_f)), (a0_23, .inl (a0_23_c, 16, .inl a0_23_f)), (a0_38, .inl (a0_38_c, 176, .inl a0_38_f)), (a0_39, .inl (a0_39_c, 2112, .inl a0_39_f))] sz) [(a0, .inr (8, [.int za0_0, .int a0_1, .int a0_2, .int a0_3, .ref a0_4, .int a0_5, .int a0_6, .int a0_7, .int a0_8, .int a0_9, .int a0_10, .long a0_11, .int a0_12, .int a0_13, .int a0_14, .int a0_15, .int a0_16, .int a0_17, .ref a0_18, .ref a0_19, .ref a0_20, .ref a0_21, .ref a0_22, .ref a0_23, .ref a0_24, .ref a0_25, .ref a0_26, .ref a0_27, .ref a0_28, .ref a0_29, .ref a0_30, .ref a0_31, .ref a0_32, .ref a0_33, .ref a0_34, .ref a0_35, .long a0_36, .int a0_37, .ref a0_38, .ref a0_39, .int za0_40, .ref a0_41, .ref a0_42, .ref a0_43])), (a0_18, .inl (a0_18_c, 2, .inl a0_18_f)), (a0_20, .inl (a0_20_c, 2, .inl a0_20_f)), (a0_23, .inl (a0_23_c, 16, .inl a0_23_f)), (a0_38, .inl (a0_38_c, 176, .inl za0_38_f)), (a0_39, .inl (a0_39_c, 2112, .inl za0_39_f))]) (va_A [(a0, .inr (8, [.int a0_0, .int a0_1, .int a0_2, .int a0_3, .ref a0_4, .int a0_5, .int a0_6, .int a0_7, .int a0_8, .int a0_9, .int a0_10, .long a0_11, .int a0_12, .int a0_13, .int a0_14, .int a0_15, .int a0_16, .int a0_17, .ref a0_18, .ref a0_19, .ref a0_20, .ref a0_21, .ref a0_22, .ref a0_23, .ref a0_24, .ref a0_25, .ref a0_26, .ref a0_27, .ref a0_28, .ref a0_29, .ref a0_30, .ref a0_31, .ref a0_32, .ref a0_33, .ref a0_34, .ref a0_35, .long a0_36, .int a0_37, .ref a0_38, .ref a0_39, .int a0_40, .ref a0_41, .ref a0_42, .ref a0_43])), (a0_18, .inl (a0_18_c, 2, .inl a0_18_f)), (a0_20, .inl (a0_20_c, 2, .inl a0_20_f)), (a0_23, .inl (a0_23_c, 16, .inl a0_23_f)), (a0_38, .inl (a0_38_c, 176, .inl a0_38_f)), (a0_39, .inl (a0_39_c, 2112, .inl a0_39_f))] sz)) 0 0 (va_A [(a0, .inr (8, [.int a0_0, .int a0_1, .int a0_2, .int a0_3, .ref a0_4, .int a0_5, .int a0_6, .int a0_7, .int a0_8, .int a0_9, .int a0_10, .long a0_11, .int a0_12, .int a0_13, .int a0_14, .int a0_15, .int a0_16, .int a0_17, .ref a0_18, .ref a0_19, .ref a0_20, .ref a0_21, .ref a0_22, .ref a0_23, .ref a0_24, .ref a0_25, .ref a0_26, .ref a0_27, .ref a0_28, .ref a0_29, .ref a0_30, .ref a0_31, .ref a0_32, .ref a0_33, .ref a0_34, .ref a0_35, .long a0_36, .int a0_37, .ref a0_38, .ref a0_39, .int a0_40, .ref a0_41, .ref a0_42, .ref a0_43])), (a0_18, .inl (a0_18_c, 2, .inl a0_18_f)), (a0_20, .inl (a0_20_c, 2, .inl a0_20_f)), (a0_23, .inl (a0_23_c, 16, .inl a0_23_f)), (a0_38, .inl (a0_38_c, 176, .inl a0_38_f)), (a0_39, .inl (a0_39_c, 2112, .inl a0_39_f))] sz) := by
  refine Met.ofW (cc := cX9_died) (maxL := 4) (ret := (some .int)) (by decide) rfl ?_
  intro p e s m args below meth c s₁ B hml hv
  obtain ⟨rfl, hsz, hP, hK, hD0, hE⟩ := hv
  have hx := B.exec
  have hb := B.bytes
  have hr := B.returns
  have hts0 := atoms_spec (ws := (.code yX9_died cX9_died 4 (some .int) :: TBL)) B.pre
  have hts := fun (w : Cond) (h : w ∈ TBL) => hts0 w (List.mem_cons_of_mem _ h)
  have hown : s.vm.findClass RX9 = some m.cls := findClass_of_methodNamed B.named
  have hlocks := B.notSynchronized
  have hN := hE.1
  subst hsz
  have hD := hD0.self (sz := s.heap.size)
  generalize hAe : va_A [(a0, .inr (8, [.int a0_0, .int a0_1, .int a0_2, .int a0_3, .ref a0_4, .int a0_5, .int a0_6, .int a0_7, .int a0_8, .int a0_9, .int a0_10, .long a0_11, .int a0_12, .int a0_13, .int a0_14, .int a0_15, .int a0_16, .int a0_17, .ref a0_18, .ref a0_19, .ref a0_20, .ref a0_21, .ref a0_22, .ref a0_23, .ref a0_24, .ref a0_25, .ref a0_26, .ref a0_27, .ref a0_28, .ref a0_29, .ref a0_30, .ref a0_31, .ref a0_32, .ref a0_33, .ref a0_34, .ref a0_35, .long a0_36, .int a0_37, .ref a0_38, .ref a0_39, .int a0_40, .ref a0_41, .ref a0_42, .ref a0_43])), (a0_18, .inl (a0_18_c, 2, .inl a0_18_f)), (a0_20, .inl (a0_20_c, 2, .inl a0_20_f)), (a0_23, .inl (a0_23_c, 16, .inl a0_23_f)), (a0_38, .inl (a0_38_c, 176, .inl a0_38_f)), (a0_39, .inl (a0_39_c, 2112, .inl a0_39_f))] s.heap.size = A at hD hE ⊢
  have hA : ∀ q : Nat, s.heap.size ≤ q → A q := fun q h => by rw [← hAe]; exact Or.inr h
  have hS : va_S A s.heap s.heap [] := va_S.rf
  replace hP : va_P (dC, dI) vwCl [(a0, .inr (8, [.int a0_0, .int a0_1, .int a0_2, .int a0_3, .ref a0_4, .int a0_5, .int a0_6, .int a0_7, .int a0_8, .int a0_9, .int a0_10, .long a0_11, .int a0_12, .int a0_13, .int a0_14, .int a0_15, .int a0_16, .int a0_17, .ref a0_18, .ref a0_19, .ref a0_20, .ref a0_21, .ref a0_22, .ref a0_23, .ref a0_24, .ref a0_25, .ref a0_26, .ref a0_27, .ref a0_28, .ref a0_29, .ref a0_30, .ref a0_31, .ref a0_32, .ref a0_33, .ref a0_34, .ref a0_35, .long a0_36, .int a0_37, .ref a0_38, .ref a0_39, .int a0_40, .ref a0_41, .ref a0_42, .ref a0_43])), (a0_18, .inl (a0_18_c, 2, .inl a0_18_f)), (a0_20, .inl (a0_20_c, 2, .inl a0_20_f)), (a0_23, .inl (a0_23_c, 16, .inl a0_23_f)), (a0_38, .inl (a0_38_c, 176, .inl a0_38_f)), (a0_39, .inl (a0_39_c, 2112, .inl a0_39_f))] s.heap := hP
  have hl := lv_entry ([.ref a0, .int a1, .int a2]) (n := 4) (Nat.le_of_ble_eq_true rfl)
  rw [lg_entry_eq]
  generalize (lg_sl ([.ref a0, .int a1, .int a2]) ++ List.replicate (4 - (lg_sl ([.ref a0, .int a1, .int a2])).length) Slot.unset).toArray = ls at hl ⊢
  have hl : lv_has ls 4 [(0, .ref a0), (1, .int a1), (2, .int a2)] := hl
  have b_a1 := i32b a1
  have b_a2 := i32b a2
  have b_a0_0 := i32b a0_0
  have b_a0_1 := i32b a0_1
  have b_a0_2 := i32b a0_2
  have b_a0_3 := i32b a0_3
  have b_a0_9 := i32b a0_9
  have b_a0_10 := i32b a0_10
  have b_a0_12 := i32b a0_12
  have b_a0_13 := i32b a0_13
  have b_a0_14 := i32b a0_14
  have b_a0_15 := i32b a0_15
  have b_a0_16 := i32b a0_16
  have hp20 := vr_at h_a0_20_f (k := 0) rfl
  have hp18 := vr_at h_a0_18_f (k := 0) rfl
  refine lv_aload_n hx hb dX9_died_0 rfl (lv_at hl 0 rfl) ?_
  refine lv_iconst (v := 0) hx hb dX9_died_1 (by decide) ?_
  refine va_put (D := (dC, dI)) (ci := 8) (v := .int 0) (ty := .int) (C := RX9) (T := TX9) (N := 44) hx hb hts inlX9 tyX9 tyX9_ok nmX9 hown hK hP hD hS 0 rgL6_3f800dd rfl 0 (by decide) (hts (.fieldLink RX9 85 "ClosedUntilModel" "thrown" "I") qw_408) (fun _ h9 => h9) rfl (by decide +kernel) rfl rfl (Nat.le_of_ble_eq_true rfl) dX9_died_2 (fun H locs hP9 hD9 hS9 => ?_)
  clear hP hD hS
  obtain ⟨hP, hD⟩ := rgS6_fcbeb75 (e := (a0, .inr (8, [.int 0, .int a0_1, .int a0_2, .int a0_3, .ref a0_4, .int a0_5, .int a0_6, .int a0_7, .int a0_8, .int a0_9, .int a0_10, .long a0_11, .int a0_12, .int a0_13, .int a0_14, .int a0_15, .int a0_16, .int a0_17, .ref a0_18, .ref a0_19, .ref a0_20, .ref a0_21, .ref a0_22, .ref a0_23, .ref a0_24, .ref a0_25, .ref a0_26, .ref a0_27, .ref a0_28, .ref a0_29, .ref a0_30, .ref a0_31, .ref a0_32, .ref a0_33, .ref a0_34, .ref a0_35, .long a0_36, .int a0_37, .ref a0_38, .ref a0_39, .int a0_40, .ref a0_41, .ref a0_42, .ref a0_43]))) hP9 hD9 rfl
  have hS := hS9; clear hP9 hD9 hS9
  refine lv_aload_n hx hb dX9_died_5 rfl (lv_at hl 0 rfl) ?_
  refine lv_iload_n hx hb dX9_died_6 rfl (lv_at hl 1 rfl) ?_
  have qc0 : (0 : Int32).toInt = 0 := by decide
  have hPc := (rgP6_7bcecd8 hP)
  have hKc := (rgK5_92301ca hK)
  refine vp_callSi ((va_runV (As := [.int a1]) (rest := []) ⟨hx, hb, hml, hown, hts⟩ (k_X9_isPerson l dC dI g (a0) (a1) (0) (a0_1) (a0_2) (a0_3) (a0_4) (a0_5) (a0_6) (a0_7) (a0_8) (a0_9) (a0_10) (a0_11) (a0_12) (a0_13) (a0_14) (a0_15) (a0_16) (a0_17) (a0_18) (a0_19) (a0_20) (a0_21) (a0_22) (a0_23) (a0_24) (a0_25) (a0_26) (a0_27) (a0_28) (a0_29) (a0_30) (a0_31) (a0_32) (a0_33) (a0_34) (a0_35) (a0_36) (a0_37) (a0_38) (a0_39) (a0_40) (a0_41) (a0_42) (a0_43) (a0_18_c) (a0_18_f) (by omega) (by omega) (by omega) (by omega) (by omega) (by omega) (by omega) h_a0_18_f) (cwV 1 hts (gwV qw_610 qw_611 qw_612 qw_386 qw_609) rfl rfl rfl (by decide +kernel) ⟨Nat.le_of_ble_eq_true rfl, Nat.le_of_ble_eq_true rfl⟩) ⟨fun a U g9 mk q => ⟨q.1, q.2.1, va_K.moved (u := U) (U := U.calling g9 mk a) (Vm.Alike.refl U.vm) q.2.2.1, Ev.bl q.2.2.2⟩, va_recv hK hP (ci := 8) (q0 := 0) rfl rgL6_3f800dd, fun U hU hW => ⟨rfl, atB hU hPc, va_K.moved hW.alike hKc, hE.go hS (fun _ h => h.elim) hU hW⟩⟩ rfl rfl hl.1 rfl (lv_room (Nat.le_of_ble_eq_true rfl)) dX9_died_7 ⟨Nat.le_of_ble_eq_true rfl, Nat.le_of_ble_eq_true rfl⟩)).run (fun r1 h_r1 => ?_)
  have h_r1 : (r1 = 0 ∨ r1 = 1) ∧ ((r1.toInt = 1 ∧ 0 ≤ a1.toInt ∧ a1.toInt < (a0_18_f 0).toInt) ∨ r1.toInt = 0) := h_r1
  have b_r1 := z01 (show r1 = 0 ∨ r1 = 1 from h_r1.1)
  refine lv_if_eq (tgt := 42) hx hb dX9_died_10 (by decide) (fun c10_2 => ?_) (fun c10_2 => ?_)
  · have c10_2 : r1.toInt = 0 := (cv_eq rfl (by decide)).mp c10_2
    refine lv_bipush (v := (-2)) hx hb dX9_died_42 (by decide) ?_
    have qcm2 : ((-2) : Int32).toInt = (-2) := by decide
    have qc0 : (0 : Int32).toInt = 0 := by decide
    refine W.widen (k := 0) (n := 0) (Nat.le_of_ble_eq_true rfl) (Nat.le_of_ble_eq_true rfl) ?_
    have hP9 := hP
    have hD9 := hD
    have hK9 := (rgK5_6e78cbf hK)
    have hf9_0 : (0 ≤ a0_40.toInt ∧ a0_40.toInt ≤ 12) := by omega
    have hf9_1 : (RowOk (a0_20_f 0).toInt a0_38_f 0) := hms
    have hf9_2 : (MU (a0_20_f 0).toInt a0_39_f a0_40) := by assumption
    exact W.iret (v := (-2)) hx hb hr (fun t ht hW => ⟨⟨(-2), (-2), rfl, rfl, 0, a0_40, a0_38_f, a0_39_f, hf9_0, hf9_1, hf9_2, atB ht hP9, va_K.moved hW.alike hK9, hD9⟩, hS.F ht⟩) hS.2.2 dX9_died_44
  · have c10_2 : ¬ (r1.toInt = 0) := mt (cv_eq rfl (by decide)).mpr c10_2
    refine lv_iload_n hx hb dX9_died_13 rfl (lv_at hl 2 rfl) ?_
    refine lv_i2l hx hb dX9_died_14 rfl ?_
    refine lv_ldc2 (v := (-1)) hx hb hown (hts (.constantLong RX9 376 (-1)) qw_640) dX9_died_15 ?_
    refine lv_ldc2 (v := 219144) hx hb hown (hts (.constantLong RX9 129 (219144)) qw_447) dX9_died_18 ?_
    have hPc := (rgP6_1d92626 hP)
    have hKc := (rgK5_6e78cbf hK)
    refine vp_callSi ((va_runS (As := [.long (a2.toInt64), .long (-1), .long 219144]) (rest := []) ⟨hx, hb, hml, hown, hts⟩ (k_X9_within l dC dI g ((a2.toInt64)) ((-1)) (219144) (a2.toInt) ((-1)) (219144) (w_li rfl) (by decide) (by decide)) (va_cwS 3 hts (gwS qw_444 qw_445 qw_386 qw_443) rfl rfl rfl (by decide +kernel) ⟨Nat.le_of_ble_eq_true rfl, Nat.le_of_ble_eq_true rfl⟩) ⟨fun a U g9 mk q => ⟨q.1, q.2.1, va_K.moved (u := U) (U := U.calling g9 mk a) (Vm.Alike.refl U.vm) q.2.2.1, Ev.bl q.2.2.2⟩, fun U hU hW => ⟨rfl, atB hU hPc, va_K.moved hW.alike hKc, hE.go hS (fun _ h => h.elim) hU hW⟩⟩ rfl rfl hl.1 rfl (lv_room (Nat.le_of_ble_eq_true rfl)) dX9_died_21 ⟨Nat.le_of_ble_eq_true rfl, Nat.le_of_ble_eq_true rfl⟩)).run (fun r3 h_r3 => ?_)
    have h_r3 : (r3 = 0 ∨ r3 = 1) ∧ ((r3.toInt = 1 ∧ (-1) ≤ a2.toInt ∧ a2.toInt ≤ 219144) ∨ (r3.toInt = 0 ∧ ¬ ((-1) ≤ a2.toInt ∧ a2.toInt ≤ 219144))) := h_r3
    have b_r3 := z01 h_r3.1
    refine lv_if_eq (tgt := 42) hx hb dX9_died_24 (by decide) (fun c24_4 => ?_) (fun c24_4 => ?_)
    · have c24_4 : r3.toInt = 0 := (cv_eq rfl (by decide)).mp c24_4
      refine lv_bipush (v := (-2)) hx hb dX9_died_42 (by decide) ?_
      have qcm2 : ((-2) : Int32).toInt = (-2) := by decide
      have qc0 : (0 : Int32).toInt = 0 := by decide
      refine W.widen (k := 0) (n := 0) (Nat.le_of_ble_eq_true rfl) (Nat.le_of_ble_eq_true rfl) ?_
      have hP9 := hP
      have hD9 := hD
      have hK9 := (rgK5_6e78cbf hK)
      have hf9_0 : (0 ≤ a0_40.toInt ∧ a0_40.toInt ≤ 12) := by omega
      have hf9_1 : (RowOk (a0_20_f 0).toInt a0_38_f 0) := hms
      have hf9_2 : (MU (a0_20_f 0).toInt a0_39_f a0_40) := by assumption
      exact W.iret (v := (-2)) hx hb hr (fun t ht hW => ⟨⟨(-2), (-2), rfl, rfl, 0, a0_40, a0_38_f, a0_39_f, hf9_0, hf9_1, hf9_2, atB ht hP9, va_K.moved hW.alike hK9, hD9⟩, hS.F ht⟩) hS.2.2 dX9_died_44
    · have c24_4 : ¬ (r3.toInt = 0) := mt (cv_eq rfl (by decide)).mpr c24_4
      refine lv_iload_n hx hb dX9_died_27 rfl (lv_at hl 2 rfl) ?_
      refine lv_iconst (v := (-1)) hx hb dX9_died_28 (by decide) ?_
      refine lv_icmp_eq (tgt := 45) hx hb dX9_died_29 (by decide) (fun c29_5 => ?_) (fun c29_5 => ?_)
      · have c29_5 : a2.toInt = (-1) := (cv_eq rfl (by decide)).mp c29_5
        refine lv_aload_n hx hb dX9_died_45 rfl (lv_at hl 0 rfl) ?_
        have qc0 : (0 : Int32).toInt = 0 := by decide
        have hPc := (rgP6_2117603 hP)
        have hKc := (rgK5_99abf79 hK)
        have hDc := (rgD6_1a65f3b hD)
        have hFc := freeW hDc hS hA
        refine va_callv (va_runV (As := []) (rest := []) ⟨hx, hb, hml, hown, hts⟩ (k_X9_keeps l dC dI g H.size (a0) (0) (a0_1) (a0_2) (a0_3) (a0_4) (a0_5) (a0_6) (a0_7) (a0_8) (a0_9) (a0_10) (a0_11) (a0_12) (a0_13) (a0_14) (a0_15) (a0_16) (a0_17) (a0_18) (a0_19) (a0_20) (a0_21) (a0_22) (a0_23) (a0_24) (a0_25) (a0_26) (a0_27) (a0_28) (a0_29) (a0_30) (a0_31) (a0_32) (a0_33) (a0_34) (a0_35) (a0_36) (a0_37) (a0_38) (a0_39) (a0_40) (a0_41) (a0_42) (a0_43) (a0_38_c) (a0_38_f) (a0_39_c) (a0_39_f) ((a0_20_f 0).toInt) (by omega) (by omega) (by omega) (by omega) (by omega) (by omega) (by omega) (by omega) (by assumption) (by assumption)) (cwV 0 hts (gwV qw_651 qw_652 qw_653 qw_386 qw_650) rfl rfl rfl (by decide +kernel) ⟨Nat.le_of_ble_eq_true rfl, Nat.le_of_ble_eq_true rfl⟩) ⟨fun a U g9 mk q => ⟨q.1, q.2.1, q.2.2.1, va_K.moved (u := U) (U := U.calling g9 mk a) (Vm.Alike.refl U.vm) q.2.2.2.1, q.2.2.2.2.1, Ev.bl q.2.2.2.2.2⟩, va_recv hK hP (ci := 8) (q0 := 0) rfl rgL6_3f800dd, fun U hU hW => ⟨rfl, by rw [hU], atB hU hPc, va_K.moved hW.alike hKc, hDc.weaken (fun _ _ _ _ => trivial), hE.go hS hFc hU hW⟩⟩ rfl rfl hl.1 rfl (lv_room (Nat.le_of_ble_eq_true rfl)) dX9_died_46 ⟨Nat.le_of_ble_eq_true rfl, Nat.le_of_ble_eq_true rfl⟩) hS (fun q _ h => hFc q h) hFc (fun u6 t H1 locs ht hvm h_u6 hB hz1 hk1 hS => ?_)
        obtain ⟨za0_40_8, za0_39_f_9, hF10, hF11, hP1, hK1, hD1⟩ := hB
        have hK1 := va_K.moved hvm.symm hK1
        have hJ9 := rgJ6_66256e0 hP hD hk1 hFc (atH ht hP1) hD1
        clear hP hD hPc hKc hDc hFc hP1 hD1 hk1 hz1
        obtain ⟨hP, hD⟩ := hJ9
        clear hK1
        generalize H1 = H at hP hS ⊢
        refine W.widen (k := 0) (n := 0) (Nat.le_of_ble_eq_true rfl) (Nat.le_of_ble_eq_true rfl) ?_
        refine lv_aload_n hx hb dX9_died_49 rfl (lv_at hl 0 rfl) ?_
        refine va_get (D := (dC, dI)) (ci := 8) (v := .ref a0_38) (C := RX9) (T := TX9) (N := 44) hx hb hts inlX9 hown hK hP 0 rgL6_3f800dd rfl 38 (by decide) (hts (.fieldLink RX9 70 "ClosedUntilModel" "s" "[I") qw_502) (fun _ h9 => h9) rfl dX9_died_50 ?_
        refine lv_bipush (v := 24) hx hb dX9_died_53 (by decide) ?_
        refine lv_iload_n hx hb dX9_died_55 rfl (lv_at hl 1 rfl) ?_
        refine lv_iadd hx hb dX9_died_56 ?_
        refine lv_topi (fun x12 e_x12 => ?_)
        try have e_x12 := ti_add e_x12 (show (24 : Int32).toInt = 24 by decide) rfl (by omega)
        refine va_iald hx hb hK hP 4 3 rgL6_fb60be2 rgT5_5f7a9a6 (vinI (by omega) (by omega)) dX9_died_57 ?_
        refine lv_topi (fun x13 e_x13 => ?_)
        have q_x13 := congrArg Int32.toInt e_x13
        have b_x13 := i32b x13
        refine lv_istore_n (lv' := [(3, .int x13), (0, .ref a0), (1, .int a1), (2, .int a2)]) hx hb dX9_died_58 rfl hl (by decide) rfl (fun ls hl => ?_)
        refine lv_aload_n hx hb dX9_died_59 rfl (lv_at hl 1 rfl) ?_
        refine va_get (D := (dC, dI)) (ci := 8) (v := .ref a0_38) (C := RX9) (T := TX9) (N := 44) hx hb hts inlX9 hown hK hP 0 rgL6_3f800dd rfl 38 (by decide) (hts (.fieldLink RX9 70 "ClosedUntilModel" "s" "[I") qw_502) (fun _ h9 => h9) rfl dX9_died_60 ?_
        refine lv_bipush (v := 24) hx hb dX9_died_63 (by decide) ?_
        refine lv_iload_n hx hb dX9_died_65 rfl (lv_at hl 2 rfl) ?_
        refine lv_iadd hx hb dX9_died_66 ?_
        refine lv_topi (fun x14 e_x14 => ?_)
        try have e_x14 := ti_add e_x14 (show (24 : Int32).toInt = 24 by decide) rfl (by omega)
        refine lv_iload_n hx hb dX9_died_67 rfl (lv_at hl 3 rfl) ?_
        refine va_iast hx hb hK hP hD hS 4 3 rgL6_fb60be2 rgT5_5f7a9a6 (vinI (by omega) (by omega)) dX9_died_68 (fun H locs hP9 hD9 hS9 => ?_)
        obtain ⟨y15, e_y15⟩ : ∃ y, (upd a0_38_f x14.toNatClampNeg a2) = y := ⟨_, rfl⟩
        clear hP hD hS
        obtain ⟨hP, hD⟩ := rgS6_bfeb194 (e := (a0_38, .inl (a0_38_c, 176, .inl y15))) hP9 hD9 (congrArg (fun z9 => (((a0_38, .inl (a0_38_c, 176, .inl z9)) : Nat × va_E))) e_y15)
        have hS := hS9; clear hP9 hD9 hS9
        refine lv_iload_n hx hb dX9_died_69 rfl (lv_at hl 0 rfl) ?_
        have qc0 : (0 : Int32).toInt = 0 := by decide
        refine W.widen (k := 0) (n := 0) (Nat.le_of_ble_eq_true rfl) (Nat.le_of_ble_eq_true rfl) ?_
        have hP9 := hP
        have hD9 := hD
        have hK9 := (rgK5_6e78cbf hK)
        have hf9_0 : (0 ≤ za0_40_8.toInt ∧ za0_40_8.toInt ≤ 12) := by omega
        have hf9_1 : (RowOk (a0_20_f 0).toInt y15 0) := RowOk.keep hms e_y15 (by omega) (by omega)
        have hf9_2 : (MU (a0_20_f 0).toInt za0_39_f_9 za0_40_8) := by assumption
        exact W.iret (v := x13) hx hb hr (fun t ht hW => ⟨⟨x13, x13, rfl, rfl, 0, za0_40_8, y15, za0_39_f_9, hf9_0, hf9_1, hf9_2, atB ht hP9, va_K.moved hW.alike hK9, hD9⟩, hS.F ht⟩) hS.2.2 dX9_died_70
      · have c29_5 : ¬ (a2.toInt = (-1)) := mt (cv_eq rfl (by decide)).mpr c29_5
        refine lv_iload_n hx hb dX9_died_32 rfl (lv_at hl 2 rfl) ?_
        refine lv_aload_n hx hb dX9_died_33 rfl (lv_at hl 0 rfl) ?_
        refine va_get (D := (dC, dI)) (ci := 8) (v := .ref a0_23) (C := RX9) (T := TX9) (N := 44) hx hb hts inlX9 hown hK hP 0 rgL6_3f800dd rfl 23 (by decide) (hts (.fieldLink RX9 30 "ClosedUntilModel" "birth" "[I") qw_514) (fun _ h9 => h9) rfl dX9_died_34 ?_
        refine lv_iload_n hx hb dX9_died_37 rfl (lv_at hl 1 rfl) ?_
        refine va_iald hx hb hK hP 3 2 rgL6_a3d2007 rgT5_57d5a88 (vinI (by omega) (by omega)) dX9_died_38 ?_
        refine lv_topi (fun x16 e_x16 => ?_)
        have q_x16 := congrArg Int32.toInt e_x16
        have b_x16 := i32b x16
        refine lv_icmp_ge (tgt := 45) hx hb dX9_died_39 (by decide) (fun c39_17 => ?_) (fun c39_17 => ?_)
        · have c39_17 : x16.toInt ≤ a2.toInt := (cv_le rfl rfl).mp c39_17
          refine lv_aload_n hx hb dX9_died_45 rfl (lv_at hl 0 rfl) ?_
          have qc0 : (0 : Int32).toInt = 0 := by decide
          have hPc := (rgP6_2117603 hP)
          have hKc := (rgK5_99abf79 hK)
          have hDc := (rgD6_1a65f3b hD)
          have hFc := freeW hDc hS hA
          refine va_callv (va_runV (As := []) (rest := []) ⟨hx, hb, hml, hown, hts⟩ (k_X9_keeps l dC dI g H.size (a0) (0) (a0_1) (a0_2) (a0_3) (a0_4) (a0_5) (a0_6) (a0_7) (a0_8) (a0_9) (a0_10) (a0_11) (a0_12) (a0_13) (a0_14) (a0_15) (a0_16) (a0_17) (a0_18) (a0_19) (a0_20) (a0_21) (a0_22) (a0_23) (a0_24) (a0_25) (a0_26) (a0_27) (a0_28) (a0_29) (a0_30) (a0_31) (a0_32) (a0_33) (a0_34) (a0_35) (a0_36) (a0_37) (a0_38) (a0_39) (a0_40) (a0_41) (a0_42) (a0_43) (a0_38_c) (a0_38_f) (a0_39_c) (a0_39_f) ((a0_20_f 0).toInt) (by omega) (by omega) (by omega) (by omega) (by omega) (by omega) (by omega) (by omega) (by assumption) (by assumption)) (cwV 0 hts (gwV qw_651 qw_652 qw_653 qw_386 qw_650) rfl rfl rfl (by decide +kernel) ⟨Nat.le_of_ble_eq_true rfl, Nat.le_of_ble_eq_true rfl⟩) ⟨fun a U g9 mk q => ⟨q.1, q.2.1, q.2.2.1, va_K.moved (u := U) (U := U.calling g9 mk a) (Vm.Alike.refl U.vm) q.2.2.2.1, q.2.2.2.2.1, Ev.bl q.2.2.2.2.2⟩, va_recv hK hP (ci := 8) (q0 := 0) rfl rgL6_3f800dd, fun U hU hW => ⟨rfl, by rw [hU], atB hU hPc, va_K.moved hW.alike hKc, hDc.weaken (fun _ _ _ _ => trivial), hE.go hS hFc hU hW⟩⟩ rfl rfl hl.1 rfl (lv_room (Nat.le_of_ble_eq_true rfl)) dX9_died_46 ⟨Nat.le_of_ble_eq_true rfl, Nat.le_of_ble_eq_true rfl⟩) hS (fun q _ h => hFc q h) hFc (fun u18 t H1 locs ht hvm h_u18 hB hz1 hk1 hS => ?_)
          obtain ⟨za0_40_20, za0_39_f_21, hF22, hF23, hP1, hK1, hD1⟩ := hB
          have hK1 := va_K.moved hvm.symm hK1
          have hJ9 := rgJ6_66256e0 hP hD hk1 hFc (atH ht hP1) hD1
          clear hP hD hPc hKc hDc hFc hP1 hD1 hk1 hz1
          obtain ⟨hP, hD⟩ := hJ9
          clear hK1
          generalize H1 = H at hP hS ⊢
          refine W.widen (k := 0) (n := 0) (Nat.le_of_ble_eq_true rfl) (Nat.le_of_ble_eq_true rfl) ?_
          refine lv_aload_n hx hb dX9_died_49 rfl (lv_at hl 0 rfl) ?_
          refine va_get (D := (dC, dI)) (ci := 8) (v := .ref a0_38) (C := RX9) (T := TX9) (N := 44) hx hb hts inlX9 hown hK hP 0 rgL6_3f800dd rfl 38 (by decide) (hts (.fieldLink RX9 70 "ClosedUntilModel" "s" "[I") qw_502) (fun _ h9 => h9) rfl dX9_died_50 ?_
          refine lv_bipush (v := 24) hx hb dX9_died_53 (by decide) ?_
          refine lv_iload_n hx hb dX9_died_55 rfl (lv_at hl 1 rfl) ?_
          refine lv_iadd hx hb dX9_died_56 ?_
          refine lv_topi (fun x24 e_x24 => ?_)
          try have e_x24 := ti_add e_x24 (show (24 : Int32).toInt = 24 by decide) rfl (by omega)
          refine va_iald hx hb hK hP 4 3 rgL6_fb60be2 rgT5_5f7a9a6 (vinI (by omega) (by omega)) dX9_died_57 ?_
          refine lv_topi (fun x25 e_x25 => ?_)
          have q_x25 := congrArg Int32.toInt e_x25
          have b_x25 := i32b x25
          refine lv_istore_n (lv' := [(3, .int x25), (0, .ref a0), (1, .int a1), (2, .int a2)]) hx hb dX9_died_58 rfl hl (by decide) rfl (fun ls hl => ?_)
          refine lv_aload_n hx hb dX9_died_59 rfl (lv_at hl 1 rfl) ?_
          refine va_get (D := (dC, dI)) (ci := 8) (v := .ref a0_38) (C := RX9) (T := TX9) (N := 44) hx hb hts inlX9 hown hK hP 0 rgL6_3f800dd rfl 38 (by decide) (hts (.fieldLink RX9 70 "ClosedUntilModel" "s" "[I") qw_502) (fun _ h9 => h9) rfl dX9_died_60 ?_
          refine lv_bipush (v := 24) hx hb dX9_died_63 (by decide) ?_
          refine lv_iload_n hx hb dX9_died_65 rfl (lv_at hl 2 rfl) ?_
          refine lv_iadd hx hb dX9_died_66 ?_
          refine lv_topi (fun x26 e_x26 => ?_)
          try have e_x26 := ti_add e_x26 (show (24 : Int32).toInt = 24 by decide) rfl (by omega)
          refine lv_iload_n hx hb dX9_died_67 rfl (lv_at hl 3 rfl) ?_
          refine va_iast hx hb hK hP hD hS 4 3 rgL6_fb60be2 rgT5_5f7a9a6 (vinI (by omega) (by omega)) dX9_died_68 (fun H locs hP9 hD9 hS9 => ?_)
          obtain ⟨y27, e_y27⟩ : ∃ y, (upd a0_38_f x26.toNatClampNeg a2) = y := ⟨_, rfl⟩
          clear hP hD hS
          obtain ⟨hP, hD⟩ := rgS6_bfeb194 (e := (a0_38, .inl (a0_38_c, 176, .inl y27))) hP9 hD9 (congrArg (fun z9 => (((a0_38, .inl (a0_38_c, 176, .inl z9)) : Nat × va_E))) e_y27)
          have hS := hS9; clear hP9 hD9 hS9
          refine lv_iload_n hx hb dX9_died_69 rfl (lv_at hl 0 rfl) ?_
          have qc0 : (0 : Int32).toInt = 0 := by decide
          refine W.widen (k := 0) (n := 0) (Nat.le_of_ble_eq_true rfl) (Nat.le_of_ble_eq_true rfl) ?_
          have hP9 := hP
          have hD9 := hD
          have hK9 := (rgK5_6e78cbf hK)
          have hf9_0 : (0 ≤ za0_40_20.toInt ∧ za0_40_20.toInt ≤ 12) := by omega
          have hf9_1 : (RowOk (a0_20_f 0).toInt y27 0) := RowOk.keep hms e_y27 (by omega) (by omega)
          have hf9_2 : (MU (a0_20_f 0).toInt za0_39_f_21 za0_40_20) := by assumption
          exact W.iret (v := x25) hx hb hr (fun t ht hW => ⟨⟨x25, x25, rfl, rfl, 0, za0_40_20, y27, za0_39_f_21, hf9_0, hf9_1, hf9_2, atB ht hP9, va_K.moved hW.alike hK9, hD9⟩, hS.F ht⟩) hS.2.2 dX9_died_70
        · have c39_17 : ¬ (x16.toInt ≤ a2.toInt) := mt (cv_le rfl rfl).mpr c39_17
          refine lv_bipush (v := (-2)) hx hb dX9_died_42 (by decide) ?_
          have qcm2 : ((-2) : Int32).toInt = (-2) := by decide
          have qc0 : (0 : Int32).toInt = 0 := by decide
          refine W.widen (k := 0) (n := 0) (Nat.le_of_ble_eq_true rfl) (Nat.le_of_ble_eq_true rfl) ?_
          have hP9 := hP
          have hD9 := hD
          have hK9 := (rgK5_6e78cbf hK)
          have hf9_0 : (0 ≤ a0_40.toInt ∧ a0_40.toInt ≤ 12) := by omega
          have hf9_1 : (RowOk (a0_20_f 0).toInt a0_38_f 0) := hms
          have hf9_2 : (MU (a0_20_f 0).toInt a0_39_f a0_40) := by assumption
          exact W.iret (v := (-2)) hx hb hr (fun t ht hW => ⟨⟨(-2), (-2), rfl, rfl, 0, a0_40, a0_38_f, a0_39_f, hf9_0, hf9_1, hf9_2, atB ht hP9, va_K.moved hW.alike hK9, hD9⟩, hS.F ht⟩) hS.2.2 dX9_died_44
set_option maxHeartbeats 4000000 in
set_option maxRecDepth 100000 in
theorem k_X9_put (l : Launch) (dC : Nat → ClassId) (dI : Nat → Nat → Nat) (g : Gv) (sz : Nat) (a0 : Nat) (a1 : Int32) (a2 : Int32) (a0_0 : Int32) (a0_1 : Int32) (a0_2 : Int32) (a0_3 : Int32) (a0_4 : Nat) (a0_5 : Int32) (a0_6 : Int32) (a0_7 : Int32) (a0_8 : Int32) (a0_9 : Int32) (a0_10 : Int32) (a0_11 : Int64) (a0_12 : Int32) (a0_13 : Int32) (a0_14 : Int32) (a0_15 : Int32) (a0_16 : Int32) (a0_17 : Int32) (a0_18 : Nat) (a0_19 : Nat) (a0_20 : Nat) (a0_21 : Nat) (a0_22 : Nat) (a0_23 : Nat) (a0_24 : Nat) (a0_25 : Nat) (a0_26 : Nat) (a0_27 : Nat) (a0_28 : Nat) (a0_29 : Nat) (a0_30 : Nat) (a0_31 : Nat) (a0_32 : Nat) (a0_33 : Nat) (a0_34 : Nat) (a0_35 : Nat) (a0_36 : Int64) (a0_37 : Int32) (a0_38 : Nat) (a0_39 : Nat) (a0_40 : Int32) (a0_41 : Nat) (a0_42 : Nat) (a0_43 : Nat) (a0_20_c : ClassId) (a0_20_f : Nat → Int32) (a0_38_c : ClassId) (a0_38_f : Nat → Int32) (a0_39_c : ClassId) (a0_39_f : Nat → Int32) (h_a0_5 : 0 ≤ a0_5.toInt ∧ a0_5.toInt ≤ 1000) (h_a0_6 : 0 ≤ a0_6.toInt ∧ a0_6.toInt ≤ 1000) (h_a0_7 : 0 ≤ a0_7.toInt ∧ a0_7.toInt ≤ 1000) (h_a0_8 : 0 ≤ a0_8.toInt ∧ a0_8.toInt ≤ 1000) (h_a0_17 : 0 ≤ a0_17.toInt ∧ a0_17.toInt ≤ 1) (h_a0_37 : (-1) ≤ a0_37.toInt ∧ a0_37.toInt ≤ 23) (h_a0_40 : 0 ≤ a0_40.toInt ∧ a0_40.toInt ≤ 12) (h_a0_20_f : vr 0 24 a0_20_f) (hms : RowOk (a0_20_f 0).toInt a0_38_f 0) (hmu : MU (a0_20_f 0).toInt a0_39_f a0_40) : Met l yX9_put (.code yX9_put cX9_put 4 (some .int) :: TBL) ({ frames := 2, cells := 0, slots := 0, locals := 46 }) (va_Pc [.ref a0, .int a1, .int a2] (fun U => U.heap.size = sz ∧ va_P (dC, dI) vwCl [(a0, .inr (8, [.int a0_0, .int a0_1, .int a0_2, .int a0_3, .ref a0_4, .int a0_5, .int a0_6, .int a0_7, .int a0_8, .int a0_9, .int a0_10, .long a0_11, .int a0_12, .int a0_13, .int a0_14, .int a0_15, .int a0_16, .int a0_17, .ref a0_18, .ref a0_19, .ref a0_20, .ref a0_21, .ref a0_22, .ref a0_23, .ref a0_24, .ref a0_25, .ref a0_26, .ref a0_27, .ref a0_28, .ref a0_29, .ref a0_30, .ref a0_31, .ref a0_32, .ref a0_33, .ref a0_34, .ref a0_35, .long a0_36, .int a0_37, .ref a0_38, .ref a0_39, .int a0_40, .ref a0_41, .ref a0_42, .ref a0_43])), (a0_20, .inl (a0_20_c, 2, .inl a0_20_f)), (a0_38, .inl (a0_38_c, 176, .inl a0_38_f)), (a0_39, .inl (a0_39_c, 2112, .inl a0_39_f))] U.heap ∧ va_K (dC, dI) vwCl [(a0_20_c, .int), (a0_38_c, .int), (a0_39_c, .int)] U ∧ va_D (fun _ => True) [(a0, .inr (8, [.int a0_0, .int a0_1, .int a0_2, .int a0_3, .ref a0_4, .int a0_5, .int a0_6, .int a0_7, .int a0_8, .int a0_9, .int a0_10, .long a0_11, .int a0_12, .int a0_13, .int a0_14, .int a0_15, .int a0_16, .int a0_17, .ref a0_18, .ref a0_19, .ref a0_20, .ref a0_21, .ref a0_22, .ref a0_23, .ref a0_24, .ref a0_25, .ref a0_26, .ref a0_27, .ref a0_28, .ref a0_29, .ref a0_30, .ref a0_31, .ref a0_32, .ref a0_33, .ref a0_34, .ref a0_35, .long a0_36, .int a0_37, .ref a0_38, .ref a0_39, .int a0_40, .ref a0_41, .ref a0_42, .ref a0_43])), (a0_20, .inl (a0_20_c, 2, .inl a0_20_f)), (a0_38, .inl (a0_38_c, 176, .inl a0_38_f)), (a0_39, .inl (a0_39_c, 2112, .inl a0_39_f))] ∧ Ev g (va_A [(a0, .inr (8, [.int a0_0, .int a0_1, .int a0_2, .int a0_3, .ref a0_4, .int a0_5, .int a0_6, .int a0_7, .int a0_8, .int a0_9, .int a0_10, .long a0_11, .int a0_12, .int a0_13, .int a0_14, .int a0_15, .int a0_16, .int a0_17, .ref a0_18, .ref a0_19, .ref a0_20, .ref a0_21, .ref a0_22, .ref a0_23, .ref a0_24, .ref a0_25, .ref a0_26, .ref a0_27, .ref a0_28, .ref a0_29, .ref a0_30, .ref a0_31, .ref a0_32, .ref a0_33, .ref a0_34, .ref a0_35, .long a0_36, .int a0_37, .ref a0_38, .ref a0_39, .int a0_40, .ref a0_41, .ref a0_42, .ref a0_43])), (a0_20, .inl (a0_20_c, 2, .inl a0_20_f)), (a0_38, .inl (a0_38_c, 176, .inl a0_38_f)), (a0_39, .inl (a0_39_c, 2112, .inl a0_39_f))] sz) U)) (va_Qi (fun (r : Int32) (u : Int32) => u = r) (fun (u : Int32) (t : State) => ∃ (za0_0 : Int32) (za0_40 : Int32) (za0_38_f : Nat → Int32) (za0_39_f : Nat → Int32), (0 ≤ za0_40.toInt ∧ za0_40.toInt ≤ 12) ∧ (RowOk (a0_20_f 0).toInt za0_38_f 0) ∧ (MU (a0_20_f 0).toInt za0_39_f za0_40) ∧ va_P (dC, dI) vwCl [(a0, .inr (8, [.int za0_0, .int a0_1, .int a0_2, .int a0_3, .ref a0_4, .int a0_5, .int a0_6, .int a0_7, .int a0_8, .int a0_9, .int a0_10, .long a0_11, .int a0_12, .int a0_13, .int a0_14, .int a0_15, .int a0_16, .int a0_17, .ref a0_18, .ref a0_19, .ref a0_20, .ref a0_21, .ref a0_22, .ref a0_23, .ref a0_24, .ref a0_25, .ref a0_26, .ref a0_27, .ref a0_28, .ref a0_29, .ref a0_30, .ref a0_31, .ref a0_32, .ref a0_33, .ref a0_34, .ref a0_35, .long a0_36, .int a0_37, .ref a0_38, .ref a0_39, .int za0_40, .ref a0_41, .ref a0_42, .ref a0_43])), (a0_20, .inl (a0_20_c, 2, .inl a0_20_f)), (a0_38, .inl (a0_38_c, 176, .inl za0_38_f)), (a0_39, .inl (a0_39_c, 2112, .inl za0_39_f))] t.heap ∧ va_K (dC, dI) vwCl [] t ∧ va_D (va_A [(a0, .inr (8, [.int a0_0, .int a0_1, .int a0_2, .int a0_3, .ref a0_4, .int a0_5, .int a0_6, .int a0_7, .int a0_8, .int a0_9, .int a0_10, .long a0_11, .int a0_12, .int a0_13, .int a0_14, .int a0_15, .int a0_16, .int a0_17, .ref a0_18, .ref a0_19, .ref a0_20, .ref a0_21, .ref a0_22, .ref a0_23, .ref a0_24, .ref a0_25, .ref a0_26, .ref a0_27, .ref a0_28, .ref a0_29, .ref a0_30, .ref a0_31, .ref a0_32, .ref a0_33, .ref a0_34, .ref a0_35, .long a0_36, .int a0_37, .ref a0_38, .ref a0_39, .int a0_40, .ref a0_41, .ref a0_42, .ref a0_43])), (a0_20, .inl (a0_20_c, 2, .inl a0_20_f)), (a0_38, .inl (a0_38_c, 176, .inl a0_38_f)), (a0_39, .inl (a0_39_c, 2112, .inl a0_39_f))] sz) [(a0, .inr (8, [.int za0_0, .int a0_1, .int a0_2, .int a0_3, .ref a0_4, .int a0_5, .int a0_6, .int a0_7, .int a0_8, .int a0_9, .int a0_10, .long a0_11, .int a0_12, .int a0_13, .int a0_14, .int a0_15, .int a0_16, .int a0_17, .ref a0_18, .ref a0_19, .ref a0_20, .ref a0_21, .ref a0_22, .ref a0_23, .ref a0_24, .ref a0_25, .ref a0_26, .ref a0_27, .ref a0_28, .ref a0_29, .ref a0_30, .ref a0_31, .ref a0_32, .ref a0_33, .ref a0_34, .ref a0_35, .long a0_36, .int a0_37, .ref a0_38, .ref a0_39, .int za0_40, .ref a0_41, .ref a0_42, .ref a0_43])), (a0_20, .inl (a0_20_c, 2, .inl a0_20_f)), (a0_38, .inl (a0_38_c, 176, .inl za0_38_f)), (a0_39, .inl (a0_39_c, 2112, .inl za0_39_f))]) (va_A [(a0, .inr (8, [.int a0_0, .int a0_1, .int a0_2, .int a0_3, .ref a0_4, .int a0_5, .int a0_6, .int a0_7, .int a0_8, .int a0_9, .int a0_10, .long a0_11, .int a0_12, .int a0_13, .int a0_14, .int a0_15, .int a0_16, .int a0_17, .ref a0_18, .ref a0_19, .ref a0_20, .ref a0_21, .ref a0_22, .ref a0_23, .ref a0_24, .ref a0_25, .ref a0_26, .ref a0_27, .ref a0_28, .ref a0_29, .ref a0_30, .ref a0_31, .ref a0_32, .ref a0_33, .ref a0_34, .ref a0_35, .long a0_36, .int a0_37, .ref a0_38, .ref a0_39, .int a0_40, .ref a0_41, .ref a0_42, .ref a0_43])), (a0_20, .inl (a0_20_c, 2, .inl a0_20_f)), (a0_38, .inl (a0_38_c, 176, .inl a0_38_f)), (a0_39, .inl (a0_39_c, 2112, .inl a0_39_f))] sz)) 0 0 (va_A [(a0, .inr (8, [.int a0_0, .int a0_1, .int a0_2, .int a0_3, .ref a0_4, .int a0_5, .int a0_6, .int a0_7, .int a0_8, .int a0_9, .int a0_10, .long a0_11, .int a0_12, .int a0_13, .int a0_14, .int a0_15, .int a0_16, .int a0_17, .ref a0_18, .ref a0_19, .ref a0_20, .ref a0_21, .ref a0_22, .ref a0_23, .ref a0_24, .ref a0_25, .ref a0_26, .ref a0_27, .ref a0_28, .ref a0_29, .ref a0_30, .ref a0_31, .ref a0_32, .ref a0_33, .ref a0_34, .ref a0_35, .long a0_36, .int a0_37, .ref a0_38, .ref a0_39, .int a0_40, .ref a0_41, .ref a0_42, .ref a0_43])), (a0_20, .inl (a0_20_c, 2, .inl a0_20_f)), (a0_38, .inl (a0_38_c, 176, .inl a0_38_f)), (a0_39, .inl (a0_39_c, 2112, .inl a0_39_f))] sz) := by
  refine Met.ofW (cc := cX9_put) (maxL := 4) (ret := (some .int)) (by decide) rfl ?_
  intro p e s m args below meth c s₁ B hml hv
  obtain ⟨rfl, hsz, hP, hK, hD0, hE⟩ := hv
  have hx := B.exec
  have hb := B.bytes
  have hr := B.returns
  have hts0 := atoms_spec (ws := (.code yX9_put cX9_put 4 (some .int) :: TBL)) B.pre
  have hts := fun (w : Cond) (h : w ∈ TBL) => hts0 w (List.mem_cons_of_mem _ h)
  have hown : s.vm.findClass RX9 = some m.cls := findClass_of_methodNamed B.named
  have hlocks := B.notSynchronized
  have hN := hE.1
  subst hsz
  have hD := hD0.self (sz := s.heap.size)
  generalize hAe : va_A [(a0, .inr (8, [.int a0_0, .int a0_1, .int a0_2, .int a0_3, .ref a0_4, .int a0_5, .int a0_6, .int a0_7, .int a0_8, .int a0_9, .int a0_10, .long a0_11, .int a0_12, .int a0_13, .int a0_14, .int a0_15, .int a0_16, .int a0_17, .ref a0_18, .ref a0_19, .ref a0_20, .ref a0_21, .ref a0_22, .ref a0_23, .ref a0_24, .ref a0_25, .ref a0_26, .ref a0_27, .ref a0_28, .ref a0_29, .ref a0_30, .ref a0_31, .ref a0_32, .ref a0_33, .ref a0_34, .ref a0_35, .long a0_36, .int a0_37, .ref a0_38, .ref a0_39, .int a0_40, .ref a0_41, .ref a0_42, .ref a0_43])), (a0_20, .inl (a0_20_c, 2, .inl a0_20_f)), (a0_38, .inl (a0_38_c, 176, .inl a0_38_f)), (a0_39, .inl (a0_39_c, 2112, .inl a0_39_f))] s.heap.size = A at hD hE ⊢
  have hA : ∀ q : Nat, s.heap.size ≤ q → A q := fun q h => by rw [← hAe]; exact Or.inr h
  have hS : va_S A s.heap s.heap [] := va_S.rf
  replace hP : va_P (dC, dI) vwCl [(a0, .inr (8, [.int a0_0, .int a0_1, .int a0_2, .int a0_3, .ref a0_4, .int a0_5, .int a0_6, .int a0_7, .int a0_8, .int a0_9, .int a0_10, .long a0_11, .int a0_12, .int a0_13, .int a0_14, .int a0_15, .int a0_16, .int a0_17, .ref a0_18, .ref a0_19, .ref a0_20, .ref a0_21, .ref a0_22, .ref a0_23, .ref a0_24, .ref a0_25, .ref a0_26, .ref a0_27, .ref a0_28, .ref a0_29, .ref a0_30, .ref a0_31, .ref a0_32, .ref a0_33, .ref a0_34, .ref a0_35, .long a0_36, .int a0_37, .ref a0_38, .ref a0_39, .int a0_40, .ref a0_41, .ref a0_42, .ref a0_43])), (a0_20, .inl (a0_20_c, 2, .inl a0_20_f)), (a0_38, .inl (a0_38_c, 176, .inl a0_38_f)), (a0_39, .inl (a0_39_c, 2112, .inl a0_39_f))] s.heap := hP
  have hl := lv_entry ([.ref a0, .int a1, .int a2]) (n := 4) (Nat.le_of_ble_eq_true rfl)
  rw [lg_entry_eq]
  generalize (lg_sl ([.ref a0, .int a1, .int a2]) ++ List.replicate (4 - (lg_sl ([.ref a0, .int a1, .int a2])).length) Slot.unset).toArray = ls at hl ⊢
  have hl : lv_has ls 4 [(0, .ref a0), (1, .int a1), (2, .int a2)] := hl
  have b_a1 := i32b a1
  have b_a2 := i32b a2
  have b_a0_0 := i32b a0_0
  have b_a0_1 := i32b a0_1
  have b_a0_2 := i32b a0_2
  have b_a0_3 := i32b a0_3
  have b_a0_9 := i32b a0_9
  have b_a0_10 := i32b a0_10
  have b_a0_12 := i32b a0_12
  have b_a0_13 := i32b a0_13
  have b_a0_14 := i32b a0_14
  have b_a0_15 := i32b a0_15
  have b_a0_16 := i32b a0_16
  have hp20 := vr_at h_a0_20_f (k := 0) rfl
  refine lv_aload_n hx hb dX9_put_0 rfl (lv_at hl 0 rfl) ?_
  refine lv_iconst (v := 0) hx hb dX9_put_1 (by decide) ?_
  refine va_put (D := (dC, dI)) (ci := 8) (v := .int 0) (ty := .int) (C := RX9) (T := TX9) (N := 44) hx hb hts inlX9 tyX9 tyX9_ok nmX9 hown hK hP hD hS 0 rgL4_25bb07f rfl 0 (by decide) (hts (.fieldLink RX9 85 "ClosedUntilModel" "thrown" "I") qw_408) (fun _ h9 => h9) rfl (by decide +kernel) rfl rfl (Nat.le_of_ble_eq_true rfl) dX9_put_2 (fun H locs hP9 hD9 hS9 => ?_)
  clear hP hD hS
  obtain ⟨hP, hD⟩ := rgS4_3ebc7b6 (e := (a0, .inr (8, [.int 0, .int a0_1, .int a0_2, .int a0_3, .ref a0_4, .int a0_5, .int a0_6, .int a0_7, .int a0_8, .int a0_9, .int a0_10, .long a0_11, .int a0_12, .int a0_13, .int a0_14, .int a0_15, .int a0_16, .int a0_17, .ref a0_18, .ref a0_19, .ref a0_20, .ref a0_21, .ref a0_22, .ref a0_23, .ref a0_24, .ref a0_25, .ref a0_26, .ref a0_27, .ref a0_28, .ref a0_29, .ref a0_30, .ref a0_31, .ref a0_32, .ref a0_33, .ref a0_34, .ref a0_35, .long a0_36, .int a0_37, .ref a0_38, .ref a0_39, .int a0_40, .ref a0_41, .ref a0_42, .ref a0_43]))) hP9 hD9 rfl
  have hS := hS9; clear hP9 hD9 hS9
  refine lv_aload_n hx hb dX9_put_5 rfl (lv_at hl 0 rfl) ?_
  refine lv_iload_n hx hb dX9_put_6 rfl (lv_at hl 1 rfl) ?_
  have qc0 : (0 : Int32).toInt = 0 := by decide
  have hPc := (rgP4_d251672 hP)
  have hKc := (rgK3_fa4d35d hK)
  refine vp_callSi ((va_runV (As := [.int a1]) (rest := []) ⟨hx, hb, hml, hown, hts⟩ (k_X9_isPiece l dC dI g (a0) (a1) (0) (a0_1) (a0_2) (a0_3) (a0_4) (a0_5) (a0_6) (a0_7) (a0_8) (a0_9) (a0_10) (a0_11) (a0_12) (a0_13) (a0_14) (a0_15) (a0_16) (a0_17) (a0_18) (a0_19) (a0_20) (a0_21) (a0_22) (a0_23) (a0_24) (a0_25) (a0_26) (a0_27) (a0_28) (a0_29) (a0_30) (a0_31) (a0_32) (a0_33) (a0_34) (a0_35) (a0_36) (a0_37) (a0_38) (a0_39) (a0_40) (a0_41) (a0_42) (a0_43) (a0_20_c) (a0_20_f) (by omega) (by omega) (by omega) (by omega) (by omega) (by omega) (by omega) h_a0_20_f) (cwV 1 hts (gwV qw_602 qw_603 qw_604 qw_386 qw_601) rfl rfl rfl (by decide +kernel) ⟨Nat.le_of_ble_eq_true rfl, Nat.le_of_ble_eq_true rfl⟩) ⟨fun a U g9 mk q => ⟨q.1, q.2.1, va_K.moved (u := U) (U := U.calling g9 mk a) (Vm.Alike.refl U.vm) q.2.2.1, Ev.bl q.2.2.2⟩, va_recv hK hP (ci := 8) (q0 := 0) rfl rgL4_25bb07f, fun U hU hW => ⟨rfl, atB hU hPc, va_K.moved hW.alike hKc, hE.go hS (fun _ h => h.elim) hU hW⟩⟩ rfl rfl hl.1 rfl (lv_room (Nat.le_of_ble_eq_true rfl)) dX9_put_7 ⟨Nat.le_of_ble_eq_true rfl, Nat.le_of_ble_eq_true rfl⟩)).run (fun r1 h_r1 => ?_)
  have h_r1 : (r1 = 0 ∨ r1 = 1) ∧ ((r1.toInt = 1 ∧ 0 ≤ a1.toInt ∧ a1.toInt < (a0_20_f 0).toInt) ∨ r1.toInt = 0) := h_r1
  have b_r1 := z01 (show r1 = 0 ∨ r1 = 1 from h_r1.1)
  refine lv_if_eq (tgt := 35) hx hb dX9_put_10 (by decide) (fun c10_2 => ?_) (fun c10_2 => ?_)
  · have c10_2 : r1.toInt = 0 := (cv_eq rfl (by decide)).mp c10_2
    refine lv_bipush (v := (-2)) hx hb dX9_put_35 (by decide) ?_
    have qcm2 : ((-2) : Int32).toInt = (-2) := by decide
    have qc0 : (0 : Int32).toInt = 0 := by decide
    refine W.widen (k := 0) (n := 0) (Nat.le_of_ble_eq_true rfl) (Nat.le_of_ble_eq_true rfl) ?_
    have hP9 := hP
    have hD9 := hD
    have hK9 := (rgK3_e7c053f hK)
    have hf9_0 : (0 ≤ a0_40.toInt ∧ a0_40.toInt ≤ 12) := by omega
    have hf9_1 : (RowOk (a0_20_f 0).toInt a0_38_f 0) := hms
    have hf9_2 : (MU (a0_20_f 0).toInt a0_39_f a0_40) := by assumption
    exact W.iret (v := (-2)) hx hb hr (fun t ht hW => ⟨⟨(-2), (-2), rfl, rfl, 0, a0_40, a0_38_f, a0_39_f, hf9_0, hf9_1, hf9_2, atB ht hP9, va_K.moved hW.alike hK9, hD9⟩, hS.F ht⟩) hS.2.2 dX9_put_37
  · have c10_2 : ¬ (r1.toInt = 0) := mt (cv_eq rfl (by decide)).mpr c10_2
    refine lv_iload_n hx hb dX9_put_13 rfl (lv_at hl 2 rfl) ?_
    refine lv_iconst (v := (-1)) hx hb dX9_put_14 (by decide) ?_
    refine lv_icmp_eq (tgt := 38) hx hb dX9_put_15 (by decide) (fun c15_3 => ?_) (fun c15_3 => ?_)
    · have c15_3 : a2.toInt = (-1) := (cv_eq rfl (by decide)).mp c15_3
      refine lv_aload_n hx hb dX9_put_38 rfl (lv_at hl 0 rfl) ?_
      have qc0 : (0 : Int32).toInt = 0 := by decide
      have hPc := (rgP4_bd98927 hP)
      have hKc := (rgK3_2c9a5f5 hK)
      have hDc := (rgD4_5a0b76e hD)
      have hFc := freeW hDc hS hA
      refine va_callv (va_runV (As := []) (rest := []) ⟨hx, hb, hml, hown, hts⟩ (k_X9_keeps l dC dI g H.size (a0) (0) (a0_1) (a0_2) (a0_3) (a0_4) (a0_5) (a0_6) (a0_7) (a0_8) (a0_9) (a0_10) (a0_11) (a0_12) (a0_13) (a0_14) (a0_15) (a0_16) (a0_17) (a0_18) (a0_19) (a0_20) (a0_21) (a0_22) (a0_23) (a0_24) (a0_25) (a0_26) (a0_27) (a0_28) (a0_29) (a0_30) (a0_31) (a0_32) (a0_33) (a0_34) (a0_35) (a0_36) (a0_37) (a0_38) (a0_39) (a0_40) (a0_41) (a0_42) (a0_43) (a0_38_c) (a0_38_f) (a0_39_c) (a0_39_f) ((a0_20_f 0).toInt) (by omega) (by omega) (by omega) (by omega) (by omega) (by omega) (by omega) (by omega) (by assumption) (by assumption)) (cwV 0 hts (gwV qw_651 qw_652 qw_653 qw_386 qw_650) rfl rfl rfl (by decide +kernel) ⟨Nat.le_of_ble_eq_true rfl, Nat.le_of_ble_eq_true rfl⟩) ⟨fun a U g9 mk q => ⟨q.1, q.2.1, q.2.2.1, va_K.moved (u := U) (U := U.calling g9 mk a) (Vm.Alike.refl U.vm) q.2.2.2.1, q.2.2.2.2.1, Ev.bl q.2.2.2.2.2⟩, va_recv hK hP (ci := 8) (q0 := 0) rfl rgL4_25bb07f, fun U hU hW => ⟨rfl, by rw [hU], atB hU hPc, va_K.moved hW.alike hKc, hDc.weaken (fun _ _ _ _ => trivial), hE.go hS hFc hU hW⟩⟩ rfl rfl hl.1 rfl (lv_room (Nat.le_of_ble_eq_true rfl)) dX9_put_39 ⟨Nat.le_of_ble_eq_true rfl, Nat.le_of_ble_eq_true rfl⟩) hS (fun q _ h => hFc q h) hFc (fun u4 t H1 locs ht hvm h_u4 hB hz1 hk1 hS => ?_)
      obtain ⟨za0_40_6, za0_39_f_7, hF8, hF9, hP1, hK1, hD1⟩ := hB
      have hK1 := va_K.moved hvm.symm hK1
      have hJ9 := rgJ4_0399ef6 hP hD hk1 hFc (atH ht hP1) hD1
      clear hP hD hPc hKc hDc hFc hP1 hD1 hk1 hz1
      obtain ⟨hP, hD⟩ := hJ9
      clear hK1
      generalize H1 = H at hP hS ⊢
      refine W.widen (k := 0) (n := 0) (Nat.le_of_ble_eq_true rfl) (Nat.le_of_ble_eq_true rfl) ?_
      refine lv_aload_n hx hb dX9_put_42 rfl (lv_at hl 0 rfl) ?_
      refine va_get (D := (dC, dI)) (ci := 8) (v := .ref a0_38) (C := RX9) (T := TX9) (N := 44) hx hb hts inlX9 hown hK hP 0 rgL4_25bb07f rfl 38 (by decide) (hts (.fieldLink RX9 70 "ClosedUntilModel" "s" "[I") qw_502) (fun _ h9 => h9) rfl dX9_put_43 ?_
      refine lv_iload_n hx hb dX9_put_46 rfl (lv_at hl 1 rfl) ?_
      refine va_iald hx hb hK hP 2 1 rgL4_682b397 rgT3_9bdde83 (vinI (by omega) (by omega)) dX9_put_47 ?_
      refine lv_topi (fun x10 e_x10 => ?_)
      have q_x10 := congrArg Int32.toInt e_x10
      have b_x10 := i32b x10
      refine lv_istore_n (lv' := [(3, .int x10), (0, .ref a0), (1, .int a1), (2, .int a2)]) hx hb dX9_put_48 rfl hl (by decide) rfl (fun ls hl => ?_)
      refine lv_aload_n hx hb dX9_put_49 rfl (lv_at hl 1 rfl) ?_
      refine va_get (D := (dC, dI)) (ci := 8) (v := .ref a0_38) (C := RX9) (T := TX9) (N := 44) hx hb hts inlX9 hown hK hP 0 rgL4_25bb07f rfl 38 (by decide) (hts (.fieldLink RX9 70 "ClosedUntilModel" "s" "[I") qw_502) (fun _ h9 => h9) rfl dX9_put_50 ?_
      refine lv_iload_n hx hb dX9_put_53 rfl (lv_at hl 2 rfl) ?_
      refine lv_iload_n hx hb dX9_put_54 rfl (lv_at hl 3 rfl) ?_
      refine va_iast hx hb hK hP hD hS 2 1 rgL4_682b397 rgT3_9bdde83 (vinI (by omega) (by omega)) dX9_put_55 (fun H locs hP9 hD9 hS9 => ?_)
      obtain ⟨y11, e_y11⟩ : ∃ y, (upd a0_38_f a1.toNatClampNeg a2) = y := ⟨_, rfl⟩
      clear hP hD hS
      obtain ⟨hP, hD⟩ := rgS4_558cc52 (e := (a0_38, .inl (a0_38_c, 176, .inl y11))) hP9 hD9 (congrArg (fun z9 => (((a0_38, .inl (a0_38_c, 176, .inl z9)) : Nat × va_E))) e_y11)
      have hS := hS9; clear hP9 hD9 hS9
      refine lv_iload_n hx hb dX9_put_56 rfl (lv_at hl 0 rfl) ?_
      have qc0 : (0 : Int32).toInt = 0 := by decide
      refine W.widen (k := 0) (n := 0) (Nat.le_of_ble_eq_true rfl) (Nat.le_of_ble_eq_true rfl) ?_
      have hP9 := hP
      have hD9 := hD
      have hK9 := (rgK3_e7c053f hK)
      have hf9_0 : (0 ≤ za0_40_6.toInt ∧ za0_40_6.toInt ≤ 12) := by omega
      have hf9_1 : (RowOk (a0_20_f 0).toInt y11 0) := RowOk.put hms e_y11 (by omega) (by omega) (by first | exact Or.inl (by omega) | exact Or.inr ⟨by omega, by omega, huq (by omega)⟩)
      have hf9_2 : (MU (a0_20_f 0).toInt za0_39_f_7 za0_40_6) := by assumption
      exact W.iret (v := x10) hx hb hr (fun t ht hW => ⟨⟨x10, x10, rfl, rfl, 0, za0_40_6, y11, za0_39_f_7, hf9_0, hf9_1, hf9_2, atB ht hP9, va_K.moved hW.alike hK9, hD9⟩, hS.F ht⟩) hS.2.2 dX9_put_57
    · have c15_3 : ¬ (a2.toInt = (-1)) := mt (cv_eq rfl (by decide)).mpr c15_3
      refine lv_aload_n hx hb dX9_put_18 rfl (lv_at hl 0 rfl) ?_
      refine lv_iload_n hx hb dX9_put_19 rfl (lv_at hl 2 rfl) ?_
      have qc0 : (0 : Int32).toInt = 0 := by decide
      have hPc := (rgP4_d251672 hP)
      have hKc := (rgK3_fa4d35d hK)
      refine vp_callSi ((va_runV (As := [.int a2]) (rest := []) ⟨hx, hb, hml, hown, hts⟩ (k_X9_isPiece l dC dI g (a0) (a2) (0) (a0_1) (a0_2) (a0_3) (a0_4) (a0_5) (a0_6) (a0_7) (a0_8) (a0_9) (a0_10) (a0_11) (a0_12) (a0_13) (a0_14) (a0_15) (a0_16) (a0_17) (a0_18) (a0_19) (a0_20) (a0_21) (a0_22) (a0_23) (a0_24) (a0_25) (a0_26) (a0_27) (a0_28) (a0_29) (a0_30) (a0_31) (a0_32) (a0_33) (a0_34) (a0_35) (a0_36) (a0_37) (a0_38) (a0_39) (a0_40) (a0_41) (a0_42) (a0_43) (a0_20_c) (a0_20_f) (by omega) (by omega) (by omega) (by omega) (by omega) (by omega) (by omega) h_a0_20_f) (cwV 1 hts (gwV qw_602 qw_603 qw_604 qw_386 qw_601) rfl rfl rfl (by decide +kernel) ⟨Nat.le_of_ble_eq_true rfl, Nat.le_of_ble_eq_true rfl⟩) ⟨fun a U g9 mk q => ⟨q.1, q.2.1, va_K.moved (u := U) (U := U.calling g9 mk a) (Vm.Alike.refl U.vm) q.2.2.1, Ev.bl q.2.2.2⟩, va_recv hK hP (ci := 8) (q0 := 0) rfl rgL4_25bb07f, fun U hU hW => ⟨rfl, atB hU hPc, va_K.moved hW.alike hKc, hE.go hS (fun _ h => h.elim) hU hW⟩⟩ rfl rfl hl.1 rfl (lv_room (Nat.le_of_ble_eq_true rfl)) dX9_put_20 ⟨Nat.le_of_ble_eq_true rfl, Nat.le_of_ble_eq_true rfl⟩)).run (fun r12 h_r12 => ?_)
      have h_r12 : (r12 = 0 ∨ r12 = 1) ∧ ((r12.toInt = 1 ∧ 0 ≤ a2.toInt ∧ a2.toInt < (a0_20_f 0).toInt) ∨ r12.toInt = 0) := h_r12
      have b_r12 := z01 (show r12 = 0 ∨ r12 = 1 from h_r12.1)
      refine lv_if_eq (tgt := 35) hx hb dX9_put_23 (by decide) (fun c23_13 => ?_) (fun c23_13 => ?_)
      · have c23_13 : r12.toInt = 0 := (cv_eq rfl (by decide)).mp c23_13
        refine lv_bipush (v := (-2)) hx hb dX9_put_35 (by decide) ?_
        have qcm2 : ((-2) : Int32).toInt = (-2) := by decide
        have qc0 : (0 : Int32).toInt = 0 := by decide
        refine W.widen (k := 0) (n := 0) (Nat.le_of_ble_eq_true rfl) (Nat.le_of_ble_eq_true rfl) ?_
        have hP9 := hP
        have hD9 := hD
        have hK9 := (rgK3_e7c053f hK)
        have hf9_0 : (0 ≤ a0_40.toInt ∧ a0_40.toInt ≤ 12) := by omega
        have hf9_1 : (RowOk (a0_20_f 0).toInt a0_38_f 0) := hms
        have hf9_2 : (MU (a0_20_f 0).toInt a0_39_f a0_40) := by assumption
        exact W.iret (v := (-2)) hx hb hr (fun t ht hW => ⟨⟨(-2), (-2), rfl, rfl, 0, a0_40, a0_38_f, a0_39_f, hf9_0, hf9_1, hf9_2, atB ht hP9, va_K.moved hW.alike hK9, hD9⟩, hS.F ht⟩) hS.2.2 dX9_put_37
      · have c23_13 : ¬ (r12.toInt = 0) := mt (cv_eq rfl (by decide)).mpr c23_13
        refine lv_aload_n hx hb dX9_put_26 rfl (lv_at hl 0 rfl) ?_
        refine lv_iload_n hx hb dX9_put_27 rfl (lv_at hl 2 rfl) ?_
        refine lv_iload_n hx hb dX9_put_28 rfl (lv_at hl 1 rfl) ?_
        have qc0 : (0 : Int32).toInt = 0 := by decide
        have hPc := (rgP4_c6ff514 hP)
        have hKc := (rgK3_7ab6ad6 hK)
        refine vp_callSi ((va_runV (As := [.int a2, .int a1]) (rest := []) ⟨hx, hb, hml, hown, hts⟩ (k_X9_isUnder l dC dI g (a0) (a2) (a1) (0) (a0_1) (a0_2) (a0_3) (a0_4) (a0_5) (a0_6) (a0_7) (a0_8) (a0_9) (a0_10) (a0_11) (a0_12) (a0_13) (a0_14) (a0_15) (a0_16) (a0_17) (a0_18) (a0_19) (a0_20) (a0_21) (a0_22) (a0_23) (a0_24) (a0_25) (a0_26) (a0_27) (a0_28) (a0_29) (a0_30) (a0_31) (a0_32) (a0_33) (a0_34) (a0_35) (a0_36) (a0_37) (a0_38) (a0_39) (a0_40) (a0_41) (a0_42) (a0_43) (a0_38_c) (a0_38_f) ((a0_20_f 0).toInt) (by omega) (by omega) (by omega) (by omega) (by omega) (by omega) (by omega) (by omega) (by assumption) (by omega) (by omega)) (cwV 2 hts (gwV qw_504 qw_505 qw_506 qw_386 qw_503) rfl rfl rfl (by decide +kernel) ⟨Nat.le_of_ble_eq_true rfl, Nat.le_of_ble_eq_true rfl⟩) ⟨fun a U g9 mk q => ⟨q.1, q.2.1, va_K.moved (u := U) (U := U.calling g9 mk a) (Vm.Alike.refl U.vm) q.2.2.1, Ev.bl q.2.2.2⟩, va_recv hK hP (ci := 8) (q0 := 0) rfl rgL4_25bb07f, fun U hU hW => ⟨rfl, atB hU hPc, va_K.moved hW.alike hKc, hE.go hS (fun _ h => h.elim) hU hW⟩⟩ rfl rfl hl.1 rfl (lv_room (Nat.le_of_ble_eq_true rfl)) dX9_put_29 ⟨Nat.le_of_ble_eq_true rfl, Nat.le_of_ble_eq_true rfl⟩)).run (fun r14 h_r14 => ?_)
        have h_r14 : (r14 = 0 ∨ r14 = 1) ∧ (r14.toInt = 0 → UQ a0_38_f a1 a2) := h_r14
        have b_r14 := z01 (show r14 = 0 ∨ r14 = 1 from h_r14.1)
        have huq := h_r14.2
        refine lv_if_eq (tgt := 38) hx hb dX9_put_32 (by decide) (fun c32_15 => ?_) (fun c32_15 => ?_)
        · have c32_15 : r14.toInt = 0 := (cv_eq rfl (by decide)).mp c32_15
          refine lv_aload_n hx hb dX9_put_38 rfl (lv_at hl 0 rfl) ?_
          have qc0 : (0 : Int32).toInt = 0 := by decide
          have hPc := (rgP4_bd98927 hP)
          have hKc := (rgK3_2c9a5f5 hK)
          have hDc := (rgD4_5a0b76e hD)
          have hFc := freeW hDc hS hA
          refine va_callv (va_runV (As := []) (rest := []) ⟨hx, hb, hml, hown, hts⟩ (k_X9_keeps l dC dI g H.size (a0) (0) (a0_1) (a0_2) (a0_3) (a0_4) (a0_5) (a0_6) (a0_7) (a0_8) (a0_9) (a0_10) (a0_11) (a0_12) (a0_13) (a0_14) (a0_15) (a0_16) (a0_17) (a0_18) (a0_19) (a0_20) (a0_21) (a0_22) (a0_23) (a0_24) (a0_25) (a0_26) (a0_27) (a0_28) (a0_29) (a0_30) (a0_31) (a0_32) (a0_33) (a0_34) (a0_35) (a0_36) (a0_37) (a0_38) (a0_39) (a0_40) (a0_41) (a0_42) (a0_43) (a0_38_c) (a0_38_f) (a0_39_c) (a0_39_f) ((a0_20_f 0).toInt) (by omega) (by omega) (by omega) (by omega) (by omega) (by omega) (by omega) (by omega) (by assumption) (by assumption)) (cwV 0 hts (gwV qw_651 qw_652 qw_653 qw_386 qw_650) rfl rfl rfl (by decide +kernel) ⟨Nat.le_of_ble_eq_true rfl, Nat.le_of_ble_eq_true rfl⟩) ⟨fun a U g9 mk q => ⟨q.1, q.2.1, q.2.2.1, va_K.moved (u := U) (U := U.calling g9 mk a) (Vm.Alike.refl U.vm) q.2.2.2.1, q.2.2.2.2.1, Ev.bl q.2.2.2.2.2⟩, va_recv hK hP (ci := 8) (q0 := 0) rfl rgL4_25bb07f, fun U hU hW => ⟨rfl, by rw [hU], atB hU hPc, va_K.moved hW.alike hKc, hDc.weaken (fun _ _ _ _ => trivial), hE.go hS hFc hU hW⟩⟩ rfl rfl hl.1 rfl (lv_room (Nat.le_of_ble_eq_true rfl)) dX9_put_39 ⟨Nat.le_of_ble_eq_true rfl, Nat.le_of_ble_eq_true rfl⟩) hS (fun q _ h => hFc q h) hFc (fun u16 t H1 locs ht hvm h_u16 hB hz1 hk1 hS => ?_)
          obtain ⟨za0_40_18, za0_39_f_19, hF20, hF21, hP1, hK1, hD1⟩ := hB
          have hK1 := va_K.moved hvm.symm hK1
          have hJ9 := rgJ4_0399ef6 hP hD hk1 hFc (atH ht hP1) hD1
          clear hP hD hPc hKc hDc hFc hP1 hD1 hk1 hz1
          obtain ⟨hP, hD⟩ := hJ9
          clear hK1
          generalize H1 = H at hP hS ⊢
          refine W.widen (k := 0) (n := 0) (Nat.le_of_ble_eq_true rfl) (Nat.le_of_ble_eq_true rfl) ?_
          refine lv_aload_n hx hb dX9_put_42 rfl (lv_at hl 0 rfl) ?_
          refine va_get (D := (dC, dI)) (ci := 8) (v := .ref a0_38) (C := RX9) (T := TX9) (N := 44) hx hb hts inlX9 hown hK hP 0 rgL4_25bb07f rfl 38 (by decide) (hts (.fieldLink RX9 70 "ClosedUntilModel" "s" "[I") qw_502) (fun _ h9 => h9) rfl dX9_put_43 ?_
          refine lv_iload_n hx hb dX9_put_46 rfl (lv_at hl 1 rfl) ?_
          refine va_iald hx hb hK hP 2 1 rgL4_682b397 rgT3_9bdde83 (vinI (by omega) (by omega)) dX9_put_47 ?_
          refine lv_topi (fun x22 e_x22 => ?_)
          have q_x22 := congrArg Int32.toInt e_x22
          have b_x22 := i32b x22
          refine lv_istore_n (lv' := [(3, .int x22), (0, .ref a0), (1, .int a1), (2, .int a2)]) hx hb dX9_put_48 rfl hl (by decide) rfl (fun ls hl => ?_)
          refine lv_aload_n hx hb dX9_put_49 rfl (lv_at hl 1 rfl) ?_
          refine va_get (D := (dC, dI)) (ci := 8) (v := .ref a0_38) (C := RX9) (T := TX9) (N := 44) hx hb hts inlX9 hown hK hP 0 rgL4_25bb07f rfl 38 (by decide) (hts (.fieldLink RX9 70 "ClosedUntilModel" "s" "[I") qw_502) (fun _ h9 => h9) rfl dX9_put_50 ?_
          refine lv_iload_n hx hb dX9_put_53 rfl (lv_at hl 2 rfl) ?_
          refine lv_iload_n hx hb dX9_put_54 rfl (lv_at hl 3 rfl) ?_
          refine va_iast hx hb hK hP hD hS 2 1 rgL4_682b397 rgT3_9bdde83 (vinI (by omega) (by omega)) dX9_put_55 (fun H locs hP9 hD9 hS9 => ?_)
          obtain ⟨y23, e_y23⟩ : ∃ y, (upd a0_38_f a1.toNatClampNeg a2) = y := ⟨_, rfl⟩
          clear hP hD hS
          obtain ⟨hP, hD⟩ := rgS4_558cc52 (e := (a0_38, .inl (a0_38_c, 176, .inl y23))) hP9 hD9 (congrArg (fun z9 => (((a0_38, .inl (a0_38_c, 176, .inl z9)) : Nat × va_E))) e_y23)
          have hS := hS9; clear hP9 hD9 hS9
          refine lv_iload_n hx hb dX9_put_56 rfl (lv_at hl 0 rfl) ?_
          have qc0 : (0 : Int32).toInt = 0 := by decide
          refine W.widen (k := 0) (n := 0) (Nat.le_of_ble_eq_true rfl) (Nat.le_of_ble_eq_true rfl) ?_
          have hP9 := hP
          have hD9 := hD
          have hK9 := (rgK3_e7c053f hK)
          have hf9_0 : (0 ≤ za0_40_18.toInt ∧ za0_40_18.toInt ≤ 12) := by omega
          have hf9_1 : (RowOk (a0_20_f 0).toInt y23 0) := RowOk.put hms e_y23 (by omega) (by omega) (by first | exact Or.inl (by omega) | exact Or.inr ⟨by omega, by omega, huq (by omega)⟩)
          have hf9_2 : (MU (a0_20_f 0).toInt za0_39_f_19 za0_40_18) := by assumption
          exact W.iret (v := x22) hx hb hr (fun t ht hW => ⟨⟨x22, x22, rfl, rfl, 0, za0_40_18, y23, za0_39_f_19, hf9_0, hf9_1, hf9_2, atB ht hP9, va_K.moved hW.alike hK9, hD9⟩, hS.F ht⟩) hS.2.2 dX9_put_57
        · have c32_15 : ¬ (r14.toInt = 0) := mt (cv_eq rfl (by decide)).mpr c32_15
          refine lv_bipush (v := (-2)) hx hb dX9_put_35 (by decide) ?_
          have qcm2 : ((-2) : Int32).toInt = (-2) := by decide
          have qc0 : (0 : Int32).toInt = 0 := by decide
          refine W.widen (k := 0) (n := 0) (Nat.le_of_ble_eq_true rfl) (Nat.le_of_ble_eq_true rfl) ?_
          have hP9 := hP
          have hD9 := hD
          have hK9 := (rgK3_e7c053f hK)
          have hf9_0 : (0 ≤ a0_40.toInt ∧ a0_40.toInt ≤ 12) := by omega
          have hf9_1 : (RowOk (a0_20_f 0).toInt a0_38_f 0) := hms
          have hf9_2 : (MU (a0_20_f 0).toInt a0_39_f a0_40) := by assumption
          exact W.iret (v := (-2)) hx hb hr (fun t ht hW => ⟨⟨(-2), (-2), rfl, rfl, 0, a0_40, a0_38_f, a0_39_f, hf9_0, hf9_1, hf9_2, atB ht hP9, va_K.moved hW.alike hK9, hD9⟩, hS.F ht⟩) hS.2.2 dX9_put_37
set_option maxHeartbeats 4000000 in
set_option maxRecDepth 100000 in
theorem k_X9_undo (l : Launch) (dC : Nat → ClassId) (dI : Nat → Nat → Nat) (g : Gv) (sz : Nat) (a0 : Nat) (a0_0 : Int32) (a0_1 : Int32) (a0_2 : Int32) (a0_3 : Int32) (a0_4 : Nat) (a0_5 : Int32) (a0_6 : Int32) (a0_7 : Int32) (a0_8 : Int32) (a0_9 : Int32) (a0_10 : Int32) (a0_11 : Int64) (a0_12 : Int32) (a0_13 : Int32) (a0_14 : Int32) (a0_15 : Int32) (a0_16 : Int32) (a0_17 : Int32) (a0_18 : Nat) (a0_19 : Nat) (a0_20 : Nat) (a0_21 : Nat) (a0_22 : Nat) (a0_23 : Nat) (a0_24 : Nat) (a0_25 : Nat) (a0_26 : Nat) (a0_27 : Nat) (a0_28 : Nat) (a0_29 : Nat) (a0_30 : Nat) (a0_31 : Nat) (a0_32 : Nat) (a0_33 : Nat) (a0_34 : Nat) (a0_35 : Nat) (a0_36 : Int64) (a0_37 : Int32) (a0_38 : Nat) (a0_39 : Nat) (a0_40 : Int32) (a0_41 : Nat) (a0_42 : Nat) (a0_43 : Nat) (a0_20_c : ClassId) (a0_20_f : Nat → Int32) (a0_38_c : ClassId) (a0_38_f : Nat → Int32) (a0_39_c : ClassId) (a0_39_f : Nat → Int32) (h_a0_5 : 0 ≤ a0_5.toInt ∧ a0_5.toInt ≤ 1000) (h_a0_6 : 0 ≤ a0_6.toInt ∧ a0_6.toInt ≤ 1000) (h_a0_7 : 0 ≤ a0_7.toInt ∧ a0_7.toInt ≤ 1000) (h_a0_8 : 0 ≤ a0_8.toInt ∧ a0_8.toInt ≤ 1000) (h_a0_17 : 0 ≤ a0_17.toInt ∧ a0_17.toInt ≤ 1) (h_a0_37 : (-1) ≤ a0_37.toInt ∧ a0_37.toInt ≤ 23) (h_a0_40 : 0 ≤ a0_40.toInt ∧ a0_40.toInt ≤ 12) (h_a0_20_f : vr 0 24 a0_20_f) (hms : RowOk (a0_20_f 0).toInt a0_38_f 0) (hmu : MU (a0_20_f 0).toInt a0_39_f a0_40) : Met l yX9_undo (.code yX9_undo cX9_undo 2 (some .int) :: TBL) ({ frames := 0, cells := 0, slots := 0, locals := 0 }) (va_Pc [.ref a0] (fun U => U.heap.size = sz ∧ va_P (dC, dI) vwCl [(a0, .inr (8, [.int a0_0, .int a0_1, .int a0_2, .int a0_3, .ref a0_4, .int a0_5, .int a0_6, .int a0_7, .int a0_8, .int a0_9, .int a0_10, .long a0_11, .int a0_12, .int a0_13, .int a0_14, .int a0_15, .int a0_16, .int a0_17, .ref a0_18, .ref a0_19, .ref a0_20, .ref a0_21, .ref a0_22, .ref a0_23, .ref a0_24, .ref a0_25, .ref a0_26, .ref a0_27, .ref a0_28, .ref a0_29, .ref a0_30, .ref a0_31, .ref a0_32, .ref a0_33, .ref a0_34, .ref a0_35, .long a0_36, .int a0_37, .ref a0_38, .ref a0_39, .int a0_40, .ref a0_41, .ref a0_42, .ref a0_43])), (a0_20, .inl (a0_20_c, 2, .inl a0_20_f)), (a0_38, .inl (a0_38_c, 176, .inl a0_38_f)), (a0_39, .inl (a0_39_c, 2112, .inl a0_39_f))] U.heap ∧ va_K (dC, dI) vwCl [(a0_20_c, .int), (a0_38_c, .int), (a0_39_c, .int)] U ∧ va_D (fun _ => True) [(a0, .inr (8, [.int a0_0, .int a0_1, .int a0_2, .int a0_3, .ref a0_4, .int a0_5, .int a0_6, .int a0_7, .int a0_8, .int a0_9, .int a0_10, .long a0_11, .int a0_12, .int a0_13, .int a0_14, .int a0_15, .int a0_16, .int a0_17, .ref a0_18, .ref a0_19, .ref a0_20, .ref a0_21, .ref a0_22, .ref a0_23, .ref a0_24, .ref a0_25, .ref a0_26, .ref a0_27, .ref a0_28, .ref a0_29, .ref a0_30, .ref a0_31, .ref a0_32, .ref a0_33, .ref a0_34, .ref a0_35, .long a0_36, .int a0_37, .ref a0_38, .ref a0_39, .int a0_40, .ref a0_41, .ref a0_42, .ref a0_43])), (a0_20, .inl (a0_20_c, 2, .inl a0_20_f)), (a0_38, .inl (a0_38_c, 176, .inl a0_38_f)), (a0_39, .inl (a0_39_c, 2112, .inl a0_39_f))] ∧ Ev g (va_A [(a0, .inr (8, [.int a0_0, .int a0_1, .int a0_2, .int a0_3, .ref a0_4, .int a0_5, .int a0_6, .int a0_7, .int a0_8, .int a0_9, .int a0_10, .long a0_11, .int a0_12, .int a0_13, .int a0_14, .int a0_15, .int a0_16, .int a0_17, .ref a0_18, .ref a0_19, .ref a0_20, .ref a0_21, .ref a0_22, .ref a0_23, .ref a0_24, .ref a0_25, .ref a0_26, .ref a0_27, .ref a0_28, .ref a0_29, .ref a0_30, .ref a0_31, .ref a0_32, .ref a0_33, .ref a0_34, .ref a0_35, .long a0_36, .int a0_37, .ref a0_38, .ref a0_39, .int a0_40, .ref a0_41, .ref a0_42, .ref a0_43])), (a0_20, .inl (a0_20_c, 2, .inl a0_20_f)), (a0_38, .inl (a0_38_c, 176, .inl a0_38_f)), (a0_39, .inl (a0_39_c, 2112, .inl a0_39_f))] sz) U)) (va_Qi (fun (r : Int32) (u : Int32) => u = r) (fun (u : Int32) (t : State) => ∃ (za0_0 : Int32) (za0_40 : Int32) (za0_38_f : Nat → Int32), (0 ≤ za0_40.toInt ∧ za0_40.toInt ≤ 12) ∧ (RowOk (a0_20_f 0).toInt za0_38_f 0) ∧ (MU (a0_20_f 0).toInt a0_39_f za0_40) ∧ va_P (dC, dI) vwCl [(a0, .inr (8, [.int za0_0, .int a0_1, .int a0_2, .int a0_3, .ref a0_4, .int a0_5, .int a0_6, .int a0_7, .int a0_8, .int a0_9, .int a0_10, .long a0_11, .int a0_12, .int a0_13, .int a0_14, .int a0_15, .int a0_16, .int a0_17, .ref a0_18, .ref a0_19, .ref a0_20, .ref a0_21, .ref a0_22, .ref a0_23, .ref a0_24, .ref a0_25, .ref a0_26, .ref a0_27, .ref a0_28, .ref a0_29, .ref a0_30, .ref a0_31, .ref a0_32, .ref a0_33, .ref a0_34, .ref a0_35, .long a0_36, .int a0_37, .ref a0_38, .ref a0_39, .int za0_40, .ref a0_41, .ref a0_42, .ref a0_43])), (a0_20, .inl (a0_20_c, 2, .inl a0_20_f)), (a0_38, .inl (a0_38_c, 176, .inl za0_38_f)), (a0_39, .inl (a0_39_c, 2112, .inl a0_39_f))] t.heap ∧ va_K (dC, dI) vwCl [] t ∧ va_D (va_A [(a0, .inr (8, [.int a0_0, .int a0_1, .int a0_2, .int a0_3, .ref a0_4, .int a0_5, .int a0_6, .int a0_7, .int a0_8, .int a0_9, .int a0_10, .long a0_11, .int a0_12, .int a0_13, .int a0_14, .int a0_15, .int a0_16, .int a0_17, .ref a0_18, .ref a0_19, .ref a0_20, .ref a0_21, .ref a0_22, .ref a0_23, .ref a0_24, .ref a0_25, .ref a0_26, .ref a0_27, .ref a0_28, .ref a0_29, .ref a0_30, .ref a0_31, .ref a0_32, .ref a0_33, .ref a0_34, .ref a0_35, .long a0_36, .int a0_37, .ref a0_38, .ref a0_39, .int a0_40, .ref a0_41, .ref a0_42, .ref a0_43])), (a0_20, .inl (a0_20_c, 2, .inl a0_20_f)), (a0_38, .inl (a0_38_c, 176, .inl a0_38_f)), (a0_39, .inl (a0_39_c, 2112, .inl a0_39_f))] sz) [(a0, .inr (8, [.int za0_0, .int a0_1, .int a0_2, .int a0_3, .ref a0_4, .int a0_5, .int a0_6, .int a0_7, .int a0_8, .int a0_9, .int a0_10, .long a0_11, .int a0_12, .int a0_13, .int a0_14, .int a0_15, .int a0_16, .int a0_17, .ref a0_18, .ref a0_19, .ref a0_20, .ref a0_21, .ref a0_22, .ref a0_23, .ref a0_24, .ref a0_25, .ref a0_26, .ref a0_27, .ref a0_28, .ref a0_29, .ref a0_30, .ref a0_31, .ref a0_32, .ref a0_33, .ref a0_34, .ref a0_35, .long a0_36, .int a0_37, .ref a0_38, .ref a0_39, .int za0_40, .ref a0_41, .ref a0_42, .ref a0_43])), (a0_20, .inl (a0_20_c, 2, .inl a0_20_f)), (a0_38, .inl (a0_38_c, 176, .inl za0_38_f)), (a0_39, .inl (a0_39_c, 2112, .inl a0_39_f))]) (va_A [(a0, .inr (8, [.int a0_0, .int a0_1, .int a0_2, .int a0_3, .ref a0_4, .int a0_5, .int a0_6, .int a0_7, .int a0_8, .int a0_9, .int a0_10, .long a0_11, .int a0_12, .int a0_13, .int a0_14, .int a0_15, .int a0_16, .int a0_17, .ref a0_18, .ref a0_19, .ref a0_20, .ref a0_21, .ref a0_22, .ref a0_23, .ref a0_24, .ref a0_25, .ref a0_26, .ref a0_27, .ref a0_28, .ref a0_29, .ref a0_30, .ref a0_31, .ref a0_32, .ref a0_33, .ref a0_34, .ref a0_35, .long a0_36, .int a0_37, .ref a0_38, .ref a0_39, .int a0_40, .ref a0_41, .ref a0_42, .ref a0_43])), (a0_20, .inl (a0_20_c, 2, .inl a0_20_f)), (a0_38, .inl (a0_38_c, 176, .inl a0_38_f)), (a0_39, .inl (a0_39_c, 2112, .inl a0_39_f))] sz)) 0 0 (va_A [(a0, .inr (8, [.int a0_0, .int a0_1, .int a0_2, .int a0_3, .ref a0_4, .int a0_5, .int a0_6, .int a0_7, .int a0_8, .int a0_9, .int a0_10, .long a0_11, .int a0_12, .int a0_13, .int a0_14, .int a0_15, .int a0_16, .int a0_17, .ref a0_18, .ref a0_19, .ref a0_20, .ref a0_21, .ref a0_22, .ref a0_23, .ref a0_24, .ref a0_25, .ref a0_26, .ref a0_27, .ref a0_28, .ref a0_29, .ref a0_30, .ref a0_31, .ref a0_32, .ref a0_33, .ref a0_34, .ref a0_35, .long a0_36, .int a0_37, .ref a0_38, .ref a0_39, .int a0_40, .ref a0_41, .ref a0_42, .ref a0_43])), (a0_20, .inl (a0_20_c, 2, .inl a0_20_f)), (a0_38, .inl (a0_38_c, 176, .inl a0_38_f)), (a0_39, .inl (a0_39_c, 2112, .inl a0_39_f))] sz) := by
  refine Met.ofW (cc := cX9_undo) (maxL := 2) (ret := (some .int)) (by decide) rfl ?_
  intro p e s m args below meth c s₁ B hml hv
  obtain ⟨rfl, hsz, hP, hK, hD0, hE⟩ := hv
  have hx := B.exec
  have hb := B.bytes
  have hr := B.returns
  have hts0 := atoms_spec (ws := (.code yX9_undo cX9_undo 2 (some .int) :: TBL)) B.pre
  have hts := fun (w : Cond) (h : w ∈ TBL) => hts0 w (List.mem_cons_of_mem _ h)
  have hown : s.vm.findClass RX9 = some m.cls := findClass_of_methodNamed B.named
  have hlocks := B.notSynchronized
  have hN := hE.1
  subst hsz
  have hD := hD0.self (sz := s.heap.size)
  generalize hAe : va_A [(a0, .inr (8, [.int a0_0, .int a0_1, .int a0_2, .int a0_3, .ref a0_4, .int a0_5, .int a0_6, .int a0_7, .int a0_8, .int a0_9, .int a0_10, .long a0_11, .int a0_12, .int a0_13, .int a0_14, .int a0_15, .int a0_16, .int a0_17, .ref a0_18, .ref a0_19, .ref a0_20, .ref a0_21, .ref a0_22, .ref a0_23, .ref a0_24, .ref a0_25, .ref a0_26, .ref a0_27, .ref a0_28, .ref a0_29, .ref a0_30, .ref a0_31, .ref a0_32, .ref a0_33, .ref a0_34, .ref a0_35, .long a0_36, .int a0_37, .ref a0_38, .ref a0_39, .int a0_40, .ref a0_41, .ref a0_42, .ref a0_43])), (a0_20, .inl (a0_20_c, 2, .inl a0_20_f)), (a0_38, .inl (a0_38_c, 176, .inl a0_38_f)), (a0_39, .inl (a0_39_c, 2112, .inl a0_39_f))] s.heap.size = A at hD hE ⊢
  have hA : ∀ q : Nat, s.heap.size ≤ q → A q := fun q h => by rw [← hAe]; exact Or.inr h
  have hS : va_S A s.heap s.heap [] := va_S.rf
  replace hP : va_P (dC, dI) vwCl [(a0, .inr (8, [.int a0_0, .int a0_1, .int a0_2, .int a0_3, .ref a0_4, .int a0_5, .int a0_6, .int a0_7, .int a0_8, .int a0_9, .int a0_10, .long a0_11, .int a0_12, .int a0_13, .int a0_14, .int a0_15, .int a0_16, .int a0_17, .ref a0_18, .ref a0_19, .ref a0_20, .ref a0_21, .ref a0_22, .ref a0_23, .ref a0_24, .ref a0_25, .ref a0_26, .ref a0_27, .ref a0_28, .ref a0_29, .ref a0_30, .ref a0_31, .ref a0_32, .ref a0_33, .ref a0_34, .ref a0_35, .long a0_36, .int a0_37, .ref a0_38, .ref a0_39, .int a0_40, .ref a0_41, .ref a0_42, .ref a0_43])), (a0_20, .inl (a0_20_c, 2, .inl a0_20_f)), (a0_38, .inl (a0_38_c, 176, .inl a0_38_f)), (a0_39, .inl (a0_39_c, 2112, .inl a0_39_f))] s.heap := hP
  have hl := lv_entry ([.ref a0]) (n := 2) (Nat.le_of_ble_eq_true rfl)
  rw [lg_entry_eq]
  generalize (lg_sl ([.ref a0]) ++ List.replicate (2 - (lg_sl ([.ref a0])).length) Slot.unset).toArray = ls at hl ⊢
  have hl : lv_has ls 2 [(0, .ref a0)] := hl
  have b_a0_0 := i32b a0_0
  have b_a0_1 := i32b a0_1
  have b_a0_2 := i32b a0_2
  have b_a0_3 := i32b a0_3
  have b_a0_9 := i32b a0_9
  have b_a0_10 := i32b a0_10
  have b_a0_12 := i32b a0_12
  have b_a0_13 := i32b a0_13
  have b_a0_14 := i32b a0_14
  have b_a0_15 := i32b a0_15
  have b_a0_16 := i32b a0_16
  have hp20 := vr_at h_a0_20_f (k := 0) rfl
  refine lv_aload_n hx hb dX9_undo_0 rfl (lv_at hl 0 rfl) ?_
  refine lv_iconst (v := 0) hx hb dX9_undo_1 (by decide) ?_
  refine va_put (D := (dC, dI)) (ci := 8) (v := .int 0) (ty := .int) (C := RX9) (T := TX9) (N := 44) hx hb hts inlX9 tyX9 tyX9_ok nmX9 hown hK hP hD hS 0 rgL4_25bb07f rfl 0 (by decide) (hts (.fieldLink RX9 85 "ClosedUntilModel" "thrown" "I") qw_408) (fun _ h9 => h9) rfl (by decide +kernel) rfl rfl (Nat.le_of_ble_eq_true rfl) dX9_undo_2 (fun H locs hP9 hD9 hS9 => ?_)
  clear hP hD hS
  obtain ⟨hP, hD⟩ := rgS4_3ebc7b6 (e := (a0, .inr (8, [.int 0, .int a0_1, .int a0_2, .int a0_3, .ref a0_4, .int a0_5, .int a0_6, .int a0_7, .int a0_8, .int a0_9, .int a0_10, .long a0_11, .int a0_12, .int a0_13, .int a0_14, .int a0_15, .int a0_16, .int a0_17, .ref a0_18, .ref a0_19, .ref a0_20, .ref a0_21, .ref a0_22, .ref a0_23, .ref a0_24, .ref a0_25, .ref a0_26, .ref a0_27, .ref a0_28, .ref a0_29, .ref a0_30, .ref a0_31, .ref a0_32, .ref a0_33, .ref a0_34, .ref a0_35, .long a0_36, .int a0_37, .ref a0_38, .ref a0_39, .int a0_40, .ref a0_41, .ref a0_42, .ref a0_43]))) hP9 hD9 rfl
  have hS := hS9; clear hP9 hD9 hS9
  refine lv_aload_n hx hb dX9_undo_5 rfl (lv_at hl 0 rfl) ?_
  refine va_get (D := (dC, dI)) (ci := 8) (v := .int a0_40) (C := RX9) (T := TX9) (N := 44) hx hb hts inlX9 hown hK hP 0 rgL4_25bb07f rfl 40 (by decide) (hts (.fieldLink RX9 310 "ClosedUntilModel" "undos" "I") qw_552) (fun _ h9 => h9) rfl dX9_undo_6 ?_
  refine lv_if_ne (tgt := 14) hx hb dX9_undo_9 (by decide) (fun c9_1 => ?_) (fun c9_1 => ?_)
  · have c9_1 : ¬ (a0_40.toInt = 0) := mt (cv_eq rfl (by decide)).mpr c9_1
    refine lv_aload_n hx hb dX9_undo_14 rfl (lv_at hl 0 rfl) ?_
    refine lv_dup hx hb dX9_undo_15 rfl ?_
    refine va_get (D := (dC, dI)) (ci := 8) (v := .int a0_40) (C := RX9) (T := TX9) (N := 44) hx hb hts inlX9 hown hK hP 0 rgL4_25bb07f rfl 40 (by decide) (hts (.fieldLink RX9 310 "ClosedUntilModel" "undos" "I") qw_552) (fun _ h9 => h9) rfl dX9_undo_16 ?_
    refine lv_iconst (v := 1) hx hb dX9_undo_19 (by decide) ?_
    refine lv_isub hx hb dX9_undo_20 ?_
    refine lv_topi (fun x2 e_x2 => ?_)
    try have e_x2 := ti_sub e_x2 rfl (show (1 : Int32).toInt = 1 by decide) (by omega)
    refine va_put (D := (dC, dI)) (ci := 8) (v := .int x2) (ty := .int) (C := RX9) (T := TX9) (N := 44) hx hb hts inlX9 tyX9 tyX9_ok nmX9 hown hK hP hD hS 0 rgL4_25bb07f rfl 40 (by decide) (hts (.fieldLink RX9 310 "ClosedUntilModel" "undos" "I") qw_552) (fun _ h9 => h9) rfl (by decide +kernel) rfl rfl (Nat.le_of_ble_eq_true rfl) dX9_undo_21 (fun H locs hP9 hD9 hS9 => ?_)
    clear hP hD hS
    obtain ⟨hP, hD⟩ := rgS4_3ebc7b6 (e := (a0, .inr (8, [.int 0, .int a0_1, .int a0_2, .int a0_3, .ref a0_4, .int a0_5, .int a0_6, .int a0_7, .int a0_8, .int a0_9, .int a0_10, .long a0_11, .int a0_12, .int a0_13, .int a0_14, .int a0_15, .int a0_16, .int a0_17, .ref a0_18, .ref a0_19, .ref a0_20, .ref a0_21, .ref a0_22, .ref a0_23, .ref a0_24, .ref a0_25, .ref a0_26, .ref a0_27, .ref a0_28, .ref a0_29, .ref a0_30, .ref a0_31, .ref a0_32, .ref a0_33, .ref a0_34, .ref a0_35, .long a0_36, .int a0_37, .ref a0_38, .ref a0_39, .int x2, .ref a0_41, .ref a0_42, .ref a0_43]))) hP9 hD9 rfl
    have hS := hS9; clear hP9 hD9 hS9
    have hcu := clE (u := x2) (by omega)
    refine lv_iconst (v := 0) hx hb dX9_undo_24 (by decide) ?_
    refine lv_istore_n (lv' := [(1, .int 0), (0, .ref a0)]) hx hb dX9_undo_25 rfl hl (by decide) rfl (fun ls hl => ?_)
    have qc0 : (0 : Int32).toInt = 0 := by decide
    refine wloop (fun n H locs ls => ∃ (l26_1 : Int32) (w26_2 : Nat → Int32), n = (2147483647 - l26_1.toInt).toNat ∧ (0 ≤ l26_1.toInt) ∧ (CPY w26_2 a0_39_f 0 (176 * x2.toNatClampNeg) l26_1) ∧ lv_has ls 2 [(1, .int l26_1), (0, .ref a0)] ∧ va_P (dC, dI) vwCl [(a0, .inr (8, [.int 0, .int a0_1, .int a0_2, .int a0_3, .ref a0_4, .int a0_5, .int a0_6, .int a0_7, .int a0_8, .int a0_9, .int a0_10, .long a0_11, .int a0_12, .int a0_13, .int a0_14, .int a0_15, .int a0_16, .int a0_17, .ref a0_18, .ref a0_19, .ref a0_20, .ref a0_21, .ref a0_22, .ref a0_23, .ref a0_24, .ref a0_25, .ref a0_26, .ref a0_27, .ref a0_28, .ref a0_29, .ref a0_30, .ref a0_31, .ref a0_32, .ref a0_33, .ref a0_34, .ref a0_35, .long a0_36, .int a0_37, .ref a0_38, .ref a0_39, .int x2, .ref a0_41, .ref a0_42, .ref a0_43])), (a0_20, .inl (a0_20_c, 2, .inl a0_20_f)), (a0_38, .inl (a0_38_c, 176, .inl w26_2)), (a0_39, .inl (a0_39_c, 2112, .inl a0_39_f))] H ∧ va_D A [(a0, .inr (8, [.int 0, .int a0_1, .int a0_2, .int a0_3, .ref a0_4, .int a0_5, .int a0_6, .int a0_7, .int a0_8, .int a0_9, .int a0_10, .long a0_11, .int a0_12, .int a0_13, .int a0_14, .int a0_15, .int a0_16, .int a0_17, .ref a0_18, .ref a0_19, .ref a0_20, .ref a0_21, .ref a0_22, .ref a0_23, .ref a0_24, .ref a0_25, .ref a0_26, .ref a0_27, .ref a0_28, .ref a0_29, .ref a0_30, .ref a0_31, .ref a0_32, .ref a0_33, .ref a0_34, .ref a0_35, .long a0_36, .int a0_37, .ref a0_38, .ref a0_39, .int x2, .ref a0_41, .ref a0_42, .ref a0_43])), (a0_20, .inl (a0_20_c, 2, .inl a0_20_f)), (a0_38, .inl (a0_38_c, 176, .inl w26_2)), (a0_39, .inl (a0_39_c, 2112, .inl a0_39_f))] ∧ va_S A s.heap H locs) ?_ ((2147483647 - (0 : Int32).toInt).toNat) _ _ _ ⟨0, a0_38_f, rfl, (by omega), (CPY.nil (by omega)), lv_sub hl [0, 1] rfl, hP, hD, hS⟩
    intro n26 H locs ls hI ih26
    obtain ⟨l26_1, w26_2, hn26, g_l26_1, gx26_0, hl, hP, hD, hS⟩ := hI
    have b_l26_1 := i32b l26_1
    refine lv_iload_n hx hb dX9_undo_26 rfl (lv_at hl 0 rfl) ?_
    refine lv_sipush (v := 176) hx hb dX9_undo_27 (by decide) ?_
    refine lv_icmp_ge (tgt := 60) hx hb dX9_undo_30 (by decide) (fun c30_3 => ?_) (fun c30_3 => ?_)
    · have c30_3 : 176 ≤ l26_1.toInt := (cv_le (by decide) rfl).mp c30_3
      refine lv_aload_n hx hb dX9_undo_60 rfl (lv_at hl 1 rfl) ?_
      refine va_get (D := (dC, dI)) (ci := 8) (v := .int x2) (C := RX9) (T := TX9) (N := 44) hx hb hts inlX9 hown hK hP 0 rgL4_25bb07f rfl 40 (by decide) (hts (.fieldLink RX9 310 "ClosedUntilModel" "undos" "I") qw_552) (fun _ h9 => h9) rfl dX9_undo_61 ?_
      have qc0 : (0 : Int32).toInt = 0 := by decide
      refine W.widen (k := 0) (n := 0) (Nat.le_of_ble_eq_true rfl) (Nat.le_of_ble_eq_true rfl) ?_
      have hP9 := hP
      have hD9 := hD
      have hK9 := (rgK3_e7c053f hK)
      have hf9_0 : (0 ≤ x2.toInt ∧ x2.toInt ≤ 12) := by omega
      have hf9_1 : (RowOk (a0_20_f 0).toInt w26_2 0) := MU.at hmu (by omega) (x := x2) (by omega) (by omega) gx26_0 (by omega)
      have hf9_2 : (MU (a0_20_f 0).toInt a0_39_f x2) := MU.less hmu (by omega)
      exact W.iret (v := x2) hx hb hr (fun t ht hW => ⟨⟨x2, x2, rfl, rfl, 0, x2, w26_2, hf9_0, hf9_1, hf9_2, atB ht hP9, va_K.moved hW.alike hK9, hD9⟩, hS.F ht⟩) hS.2.2 dX9_undo_64
    · have c30_3 : ¬ (176 ≤ l26_1.toInt) := mt (cv_le (by decide) rfl).mpr c30_3
      refine lv_aload_n hx hb dX9_undo_33 rfl (lv_at hl 1 rfl) ?_
      refine va_get (D := (dC, dI)) (ci := 8) (v := .ref a0_38) (C := RX9) (T := TX9) (N := 44) hx hb hts inlX9 hown hK hP 0 rgL4_25bb07f rfl 38 (by decide) (hts (.fieldLink RX9 70 "ClosedUntilModel" "s" "[I") qw_502) (fun _ h9 => h9) rfl dX9_undo_34 ?_
      refine lv_iload_n hx hb dX9_undo_37 rfl (lv_at hl 0 rfl) ?_
      refine lv_aload_n hx hb dX9_undo_38 rfl (lv_at hl 1 rfl) ?_
      refine va_get (D := (dC, dI)) (ci := 8) (v := .ref a0_39) (C := RX9) (T := TX9) (N := 44) hx hb hts inlX9 hown hK hP 0 rgL4_25bb07f rfl 39 (by decide) (hts (.fieldLink RX9 73 "ClosedUntilModel" "undone" "[I") qw_553) (fun _ h9 => h9) rfl dX9_undo_39 ?_
      refine lv_sipush (v := 176) hx hb dX9_undo_42 (by decide) ?_
      refine lv_aload_n hx hb dX9_undo_45 rfl (lv_at hl 1 rfl) ?_
      refine va_get (D := (dC, dI)) (ci := 8) (v := .int x2) (C := RX9) (T := TX9) (N := 44) hx hb hts inlX9 hown hK hP 0 rgL4_25bb07f rfl 40 (by decide) (hts (.fieldLink RX9 310 "ClosedUntilModel" "undos" "I") qw_552) (fun _ h9 => h9) rfl dX9_undo_46 ?_
      refine lv_imul hx hb dX9_undo_49 ?_
      refine lv_topi (fun x4 e_x4 => ?_)
      try have e_x4 := ti_mul e_x4 (show (176 : Int32).toInt = 176 by decide) rfl (by omega)
      refine lv_iload_n hx hb dX9_undo_50 rfl (lv_at hl 0 rfl) ?_
      refine lv_iadd hx hb dX9_undo_51 ?_
      refine lv_topi (fun x5 e_x5 => ?_)
      try have e_x5 := ti_add e_x5 rfl rfl (by omega)
      refine va_iald hx hb hK hP 3 2 rgL4_582d62e rgT3_173f9f1 (vinI (by omega) (by omega)) dX9_undo_52 ?_
      refine lv_topi (fun x6 e_x6 => ?_)
      have q_x6 := congrArg Int32.toInt e_x6
      have b_x6 := i32b x6
      refine va_iast hx hb hK hP hD hS 2 1 rgL4_682b397 rgT3_9bdde83 (vinI (by omega) (by omega)) dX9_undo_53 (fun H locs hP9 hD9 hS9 => ?_)
      obtain ⟨y7, e_y7⟩ : ∃ y, (upd w26_2 l26_1.toNatClampNeg x6) = y := ⟨_, rfl⟩
      clear hP hD hS
      obtain ⟨hP, hD⟩ := rgS4_558cc52 (e := (a0_38, .inl (a0_38_c, 176, .inl y7))) hP9 hD9 (congrArg (fun z9 => (((a0_38, .inl (a0_38_c, 176, .inl z9)) : Nat × va_E))) e_y7)
      have hS := hS9; clear hP9 hD9 hS9
      obtain ⟨x8, e_x8⟩ : ∃ y : Int32, y = l26_1 + 1 := ⟨_, rfl⟩
      refine lv_iinc (v := x8) (lv' := [(1, .int x8), (0, .ref a0)]) hx hb dX9_undo_54 hl (k := 0) rfl (by rw [e_x8]; rfl) (by decide) rfl (fun ls hl => ?_)
      try have e_x8 := ti_add e_x8 rfl (show (1 : Int32).toInt = 1 by decide) (by omega)
      refine lv_goto (tgt := 26) hx hb dX9_undo_57 (by decide) ?_
      exact ih26 ((2147483647 - x8.toInt).toNat) _ _ _ (by omega) ⟨x8, y7, rfl, (by omega), (CPY.step gx26_0 e_y7 e_x6 (by omega) (by omega) (by omega) (by omega)), lv_sub hl [0, 1] rfl, hP, hD, hS⟩
  · have c9_1 : a0_40.toInt = 0 := (cv_eq rfl (by decide)).mp c9_1
    refine lv_iconst (v := (-1)) hx hb dX9_undo_12 (by decide) ?_
    have qcm1 : ((-1) : Int32).toInt = (-1) := by decide
    have qc0 : (0 : Int32).toInt = 0 := by decide
    refine W.widen (k := 0) (n := 0) (Nat.le_of_ble_eq_true rfl) (Nat.le_of_ble_eq_true rfl) ?_
    have hP9 := hP
    have hD9 := hD
    have hK9 := (rgK3_e7c053f hK)
    have hf9_0 : (0 ≤ a0_40.toInt ∧ a0_40.toInt ≤ 12) := by omega
    have hf9_1 : (RowOk (a0_20_f 0).toInt a0_38_f 0) := hms
    have hf9_2 : (MU (a0_20_f 0).toInt a0_39_f a0_40) := hmu
    exact W.iret (v := (-1)) hx hb hr (fun t ht hW => ⟨⟨(-1), (-1), rfl, rfl, 0, a0_40, a0_38_f, hf9_0, hf9_1, hf9_2, atB ht hP9, va_K.moved hW.alike hK9, hD9⟩, hS.F ht⟩) hS.2.2 dX9_undo_13
set_option maxHeartbeats 4000000 in
set_option maxRecDepth 100000 in
theorem k_X9_keep (l : Launch) (dC : Nat → ClassId) (dI : Nat → Nat → Nat) (g : Gv) (sz : Nat) (a0 : Nat) (a1 : Int32) (a2 : Int32) (a0_0 : Int32) (a0_1 : Int32) (a0_2 : Int32) (a0_3 : Int32) (a0_4 : Nat) (a0_5 : Int32) (a0_6 : Int32) (a0_7 : Int32) (a0_8 : Int32) (a0_9 : Int32) (a0_10 : Int32) (a0_11 : Int64) (a0_12 : Int32) (a0_13 : Int32) (a0_14 : Int32) (a0_15 : Int32) (a0_16 : Int32) (a0_17 : Int32) (a0_18 : Nat) (a0_19 : Nat) (a0_20 : Nat) (a0_21 : Nat) (a0_22 : Nat) (a0_23 : Nat) (a0_24 : Nat) (a0_25 : Nat) (a0_26 : Nat) (a0_27 : Nat) (a0_28 : Nat) (a0_29 : Nat) (a0_30 : Nat) (a0_31 : Nat) (a0_32 : Nat) (a0_33 : Nat) (a0_34 : Nat) (a0_35 : Nat) (a0_36 : Int64) (a0_37 : Int32) (a0_38 : Nat) (a0_39 : Nat) (a0_40 : Int32) (a0_41 : Nat) (a0_42 : Nat) (a0_43 : Nat) (a0_20_c : ClassId) (a0_20_f : Nat → Int32) (a0_38_c : ClassId) (a0_38_f : Nat → Int32) (a0_39_c : ClassId) (a0_39_f : Nat → Int32) (a0_41_c : ClassId) (a0_41_f : Nat → Int32) (a0_42_c : ClassId) (a0_42_f : Nat → Int32) (h_a0_5 : 0 ≤ a0_5.toInt ∧ a0_5.toInt ≤ 1000) (h_a0_6 : 0 ≤ a0_6.toInt ∧ a0_6.toInt ≤ 1000) (h_a0_7 : 0 ≤ a0_7.toInt ∧ a0_7.toInt ≤ 1000) (h_a0_8 : 0 ≤ a0_8.toInt ∧ a0_8.toInt ≤ 1000) (h_a0_17 : 0 ≤ a0_17.toInt ∧ a0_17.toInt ≤ 1) (h_a0_37 : (-1) ≤ a0_37.toInt ∧ a0_37.toInt ≤ 23) (h_a0_40 : 0 ≤ a0_40.toInt ∧ a0_40.toInt ≤ 12) (h_a0_20_f : vr 0 24 a0_20_f) (hms : RowOk (a0_20_f 0).toInt a0_38_f 0) (hmu : MU (a0_20_f 0).toInt a0_39_f a0_40) (hmk : MK (a0_20_f 0).toInt a0_41_f a0_42_f) : Met l yX9_keep (.code yX9_keep cX9_keep 4 (some .boolean) :: TBL) ({ frames := 1, cells := 0, slots := 0, locals := 25 }) (va_Pc [.ref a0, .int a1, .int a2] (fun U => U.heap.size = sz ∧ va_P (dC, dI) vwCl [(a0, .inr (8, [.int a0_0, .int a0_1, .int a0_2, .int a0_3, .ref a0_4, .int a0_5, .int a0_6, .int a0_7, .int a0_8, .int a0_9, .int a0_10, .long a0_11, .int a0_12, .int a0_13, .int a0_14, .int a0_15, .int a0_16, .int a0_17, .ref a0_18, .ref a0_19, .ref a0_20, .ref a0_21, .ref a0_22, .ref a0_23, .ref a0_24, .ref a0_25, .ref a0_26, .ref a0_27, .ref a0_28, .ref a0_29, .ref a0_30, .ref a0_31, .ref a0_32, .ref a0_33, .ref a0_34, .ref a0_35, .long a0_36, .int a0_37, .ref a0_38, .ref a0_39, .int a0_40, .ref a0_41, .ref a0_42, .ref a0_43])), (a0_20, .inl (a0_20_c, 2, .inl a0_20_f)), (a0_38, .inl (a0_38_c, 176, .inl a0_38_f)), (a0_39, .inl (a0_39_c, 2112, .inl a0_39_f)), (a0_41, .inl (a0_41_c, 352, .inl a0_41_f)), (a0_42, .inl (a0_42_c, 2, .inl a0_42_f))] U.heap ∧ va_K (dC, dI) vwCl [(a0_20_c, .int), (a0_38_c, .int), (a0_39_c, .int), (a0_41_c, .int), (a0_42_c, .boolean)] U ∧ va_D (fun _ => True) [(a0, .inr (8, [.int a0_0, .int a0_1, .int a0_2, .int a0_3, .ref a0_4, .int a0_5, .int a0_6, .int a0_7, .int a0_8, .int a0_9, .int a0_10, .long a0_11, .int a0_12, .int a0_13, .int a0_14, .int a0_15, .int a0_16, .int a0_17, .ref a0_18, .ref a0_19, .ref a0_20, .ref a0_21, .ref a0_22, .ref a0_23, .ref a0_24, .ref a0_25, .ref a0_26, .ref a0_27, .ref a0_28, .ref a0_29, .ref a0_30, .ref a0_31, .ref a0_32, .ref a0_33, .ref a0_34, .ref a0_35, .long a0_36, .int a0_37, .ref a0_38, .ref a0_39, .int a0_40, .ref a0_41, .ref a0_42, .ref a0_43])), (a0_20, .inl (a0_20_c, 2, .inl a0_20_f)), (a0_38, .inl (a0_38_c, 176, .inl a0_38_f)), (a0_39, .inl (a0_39_c, 2112, .inl a0_39_f)), (a0_41, .inl (a0_41_c, 352, .inl a0_41_f)), (a0_42, .inl (a0_42_c, 2, .inl a0_42_f))] ∧ Ev g (va_A [(a0, .inr (8, [.int a0_0, .int a0_1, .int a0_2, .int a0_3, .ref a0_4, .int a0_5, .int a0_6, .int a0_7, .int a0_8, .int a0_9, .int a0_10, .long a0_11, .int a0_12, .int a0_13, .int a0_14, .int a0_15, .int a0_16, .int a0_17, .ref a0_18, .ref a0_19, .ref a0_20, .ref a0_21, .ref a0_22, .ref a0_23, .ref a0_24, .ref a0_25, .ref a0_26, .ref a0_27, .ref a0_28, .ref a0_29, .ref a0_30, .ref a0_31, .ref a0_32, .ref a0_33, .ref a0_34, .ref a0_35, .long a0_36, .int a0_37, .ref a0_38, .ref a0_39, .int a0_40, .ref a0_41, .ref a0_42, .ref a0_43])), (a0_20, .inl (a0_20_c, 2, .inl a0_20_f)), (a0_38, .inl (a0_38_c, 176, .inl a0_38_f)), (a0_39, .inl (a0_39_c, 2112, .inl a0_39_f)), (a0_41, .inl (a0_41_c, 352, .inl a0_41_f)), (a0_42, .inl (a0_42_c, 2, .inl a0_42_f))] sz) U)) (va_Qi (fun (r : Int32) (u : Int32) => u = r) (fun (u : Int32) (t : State) => ∃ (za0_0 : Int32) (za0_40 : Int32) (za0_38_f : Nat → Int32) (za0_41_f : Nat → Int32) (za0_42_f : Nat → Int32), (0 ≤ za0_40.toInt ∧ za0_40.toInt ≤ 12) ∧ (u = 0 ∨ u = 1) ∧ (RowOk (a0_20_f 0).toInt za0_38_f 0) ∧ (MU (a0_20_f 0).toInt a0_39_f za0_40) ∧ (MK (a0_20_f 0).toInt za0_41_f za0_42_f) ∧ va_P (dC, dI) vwCl [(a0, .inr (8, [.int za0_0, .int a0_1, .int a0_2, .int a0_3, .ref a0_4, .int a0_5, .int a0_6, .int a0_7, .int a0_8, .int a0_9, .int a0_10, .long a0_11, .int a0_12, .int a0_13, .int a0_14, .int a0_15, .int a0_16, .int a0_17, .ref a0_18, .ref a0_19, .ref a0_20, .ref a0_21, .ref a0_22, .ref a0_23, .ref a0_24, .ref a0_25, .ref a0_26, .ref a0_27, .ref a0_28, .ref a0_29, .ref a0_30, .ref a0_31, .ref a0_32, .ref a0_33, .ref a0_34, .ref a0_35, .long a0_36, .int a0_37, .ref a0_38, .ref a0_39, .int za0_40, .ref a0_41, .ref a0_42, .ref a0_43])), (a0_20, .inl (a0_20_c, 2, .inl a0_20_f)), (a0_38, .inl (a0_38_c, 176, .inl za0_38_f)), (a0_39, .inl (a0_39_c, 2112, .inl a0_39_f)), (a0_41, .inl (a0_41_c, 352, .inl za0_41_f)), (a0_42, .inl (a0_42_c, 2, .inl za0_42_f))] t.heap ∧ va_K (dC, dI) vwCl [] t ∧ va_D (va_A [(a0, .inr (8, [.int a0_0, .int a0_1, .int a0_2, .int a0_3, .ref a0_4, .int a0_5, .int a0_6, .int a0_7, .int a0_8, .int a0_9, .int a0_10, .long a0_11, .int a0_12, .int a0_13, .int a0_14, .int a0_15, .int a0_16, .int a0_17, .ref a0_18, .ref a0_19, .ref a0_20, .ref a0_21, .ref a0_22, .ref a0_23, .ref a0_24, .ref a0_25, .ref a0_26, .ref a0_27, .ref a0_28, .ref a0_29, .ref a0_30, .ref a0_31, .ref a0_32, .ref a0_33, .ref a0_34, .ref a0_35, .long a0_36, .int a0_37, .ref a0_38, .ref a0_39, .int a0_40, .ref a0_41, .ref a0_42, .ref a0_43])), (a0_20, .inl (a0_20_c, 2, .inl a0_20_f)), (a0_38, .inl (a0_38_c, 176, .inl a0_38_f)), (a0_39, .inl (a0_39_c, 2112, .inl a0_39_f)), (a0_41, .inl (a0_41_c, 352, .inl a0_41_f)), (a0_42, .inl (a0_42_c, 2, .inl a0_42_f))] sz) [(a0, .inr (8, [.int za0_0, .int a0_1, .int a0_2, .int a0_3, .ref a0_4, .int a0_5, .int a0_6, .int a0_7, .int a0_8, .int a0_9, .int a0_10, .long a0_11, .int a0_12, .int a0_13, .int a0_14, .int a0_15, .int a0_16, .int a0_17, .ref a0_18, .ref a0_19, .ref a0_20, .ref a0_21, .ref a0_22, .ref a0_23, .ref a0_24, .ref a0_25, .ref a0_26, .ref a0_27, .ref a0_28, .ref a0_29, .ref a0_30, .ref a0_31, .ref a0_32, .ref a0_33, .ref a0_34, .ref a0_35, .long a0_36, .int a0_37, .ref a0_38, .ref a0_39, .int za0_40, .ref a0_41, .ref a0_42, .ref a0_43])), (a0_20, .inl (a0_20_c, 2, .inl a0_20_f)), (a0_38, .inl (a0_38_c, 176, .inl za0_38_f)), (a0_39, .inl (a0_39_c, 2112, .inl a0_39_f)), (a0_41, .inl (a0_41_c, 352, .inl za0_41_f)), (a0_42, .inl (a0_42_c, 2, .inl za0_42_f))]) (va_A [(a0, .inr (8, [.int a0_0, .int a0_1, .int a0_2, .int a0_3, .ref a0_4, .int a0_5, .int a0_6, .int a0_7, .int a0_8, .int a0_9, .int a0_10, .long a0_11, .int a0_12, .int a0_13, .int a0_14, .int a0_15, .int a0_16, .int a0_17, .ref a0_18, .ref a0_19, .ref a0_20, .ref a0_21, .ref a0_22, .ref a0_23, .ref a0_24, .ref a0_25, .ref a0_26, .ref a0_27, .ref a0_28, .ref a0_29, .ref a0_30, .ref a0_31, .ref a0_32, .ref a0_33, .ref a0_34, .ref a0_35, .long a0_36, .int a0_37, .ref a0_38, .ref a0_39, .int a0_40, .ref a0_41, .ref a0_42, .ref a0_43])), (a0_20, .inl (a0_20_c, 2, .inl a0_20_f)), (a0_38, .inl (a0_38_c, 176, .inl a0_38_f)), (a0_39, .inl (a0_39_c, 2112, .inl a0_39_f)), (a0_41, .inl (a0_41_c, 352, .inl a0_41_f)), (a0_42, .inl (a0_42_c, 2, .inl a0_42_f))] sz)) 0 0 (va_A [(a0, .inr (8, [.int a0_0, .int a0_1, .int a0_2, .int a0_3, .ref a0_4, .int a0_5, .int a0_6, .int a0_7, .int a0_8, .int a0_9, .int a0_10, .long a0_11, .int a0_12, .int a0_13, .int a0_14, .int a0_15, .int a0_16, .int a0_17, .ref a0_18, .ref a0_19, .ref a0_20, .ref a0_21, .ref a0_22, .ref a0_23, .ref a0_24, .ref a0_25, .ref a0_26, .ref a0_27, .ref a0_28, .ref a0_29, .ref a0_30, .ref a0_31, .ref a0_32, .ref a0_33, .ref a0_34, .ref a0_35, .long a0_36, .int a0_37, .ref a0_38, .ref a0_39, .int a0_40, .ref a0_41, .ref a0_42, .ref a0_43])), (a0_20, .inl (a0_20_c, 2, .inl a0_20_f)), (a0_38, .inl (a0_38_c, 176, .inl a0_38_f)), (a0_39, .inl (a0_39_c, 2112, .inl a0_39_f)), (a0_41, .inl (a0_41_c, 352, .inl a0_41_f)), (a0_42, .inl (a0_42_c, 2, .inl a0_42_f))] sz) := by
  refine Met.ofW (cc := cX9_keep) (maxL := 4) (ret := (some .boolean)) (by decide) rfl ?_
  intro p e s m args below meth c s₁ B hml hv
  obtain ⟨rfl, hsz, hP, hK, hD0, hE⟩ := hv
  have hx := B.exec
  have hb := B.bytes
  have hr := B.returns
  have hts0 := atoms_spec (ws := (.code yX9_keep cX9_keep 4 (some .boolean) :: TBL)) B.pre
  have hts := fun (w : Cond) (h : w ∈ TBL) => hts0 w (List.mem_cons_of_mem _ h)
  have hown : s.vm.findClass RX9 = some m.cls := findClass_of_methodNamed B.named
  have hlocks := B.notSynchronized
  have hN := hE.1
  subst hsz
  have hD := hD0.self (sz := s.heap.size)
  generalize hAe : va_A [(a0, .inr (8, [.int a0_0, .int a0_1, .int a0_2, .int a0_3, .ref a0_4, .int a0_5, .int a0_6, .int a0_7, .int a0_8, .int a0_9, .int a0_10, .long a0_11, .int a0_12, .int a0_13, .int a0_14, .int a0_15, .int a0_16, .int a0_17, .ref a0_18, .ref a0_19, .ref a0_20, .ref a0_21, .ref a0_22, .ref a0_23, .ref a0_24, .ref a0_25, .ref a0_26, .ref a0_27, .ref a0_28, .ref a0_29, .ref a0_30, .ref a0_31, .ref a0_32, .ref a0_33, .ref a0_34, .ref a0_35, .long a0_36, .int a0_37, .ref a0_38, .ref a0_39, .int a0_40, .ref a0_41, .ref a0_42, .ref a0_43])), (a0_20, .inl (a0_20_c, 2, .inl a0_20_f)), (a0_38, .inl (a0_38_c, 176, .inl a0_38_f)), (a0_39, .inl (a0_39_c, 2112, .inl a0_39_f)), (a0_41, .inl (a0_41_c, 352, .inl a0_41_f)), (a0_42, .inl (a0_42_c, 2, .inl a0_42_f))] s.heap.size = A at hD hE ⊢
  have hA : ∀ q : Nat, s.heap.size ≤ q → A q := fun q h => by rw [← hAe]; exact Or.inr h
  have hS : va_S A s.heap s.heap [] := va_S.rf
  replace hP : va_P (dC, dI) vwCl [(a0, .inr (8, [.int a0_0, .int a0_1, .int a0_2, .int a0_3, .ref a0_4, .int a0_5, .int a0_6, .int a0_7, .int a0_8, .int a0_9, .int a0_10, .long a0_11, .int a0_12, .int a0_13, .int a0_14, .int a0_15, .int a0_16, .int a0_17, .ref a0_18, .ref a0_19, .ref a0_20, .ref a0_21, .ref a0_22, .ref a0_23, .ref a0_24, .ref a0_25, .ref a0_26, .ref a0_27, .ref a0_28, .ref a0_29, .ref a0_30, .ref a0_31, .ref a0_32, .ref a0_33, .ref a0_34, .ref a0_35, .long a0_36, .int a0_37, .ref a0_38, .ref a0_39, .int a0_40, .ref a0_41, .ref a0_42, .ref a0_43])), (a0_20, .inl (a0_20_c, 2, .inl a0_20_f)), (a0_38, .inl (a0_38_c, 176, .inl a0_38_f)), (a0_39, .inl (a0_39_c, 2112, .inl a0_39_f)), (a0_41, .inl (a0_41_c, 352, .inl a0_41_f)), (a0_42, .inl (a0_42_c, 2, .inl a0_42_f))] s.heap := hP
  have hl := lv_entry ([.ref a0, .int a1, .int a2]) (n := 4) (Nat.le_of_ble_eq_true rfl)
  rw [lg_entry_eq]
  generalize (lg_sl ([.ref a0, .int a1, .int a2]) ++ List.replicate (4 - (lg_sl ([.ref a0, .int a1, .int a2])).length) Slot.unset).toArray = ls at hl ⊢
  have hl : lv_has ls 4 [(0, .ref a0), (1, .int a1), (2, .int a2)] := hl
  have b_a1 := i32b a1
  have b_a2 := i32b a2
  have b_a0_0 := i32b a0_0
  have b_a0_1 := i32b a0_1
  have b_a0_2 := i32b a0_2
  have b_a0_3 := i32b a0_3
  have b_a0_9 := i32b a0_9
  have b_a0_10 := i32b a0_10
  have b_a0_12 := i32b a0_12
  have b_a0_13 := i32b a0_13
  have b_a0_14 := i32b a0_14
  have b_a0_15 := i32b a0_15
  have b_a0_16 := i32b a0_16
  have hp20 := vr_at h_a0_20_f (k := 0) rfl
  refine lv_aload_n hx hb dX9_keep_0 rfl (lv_at hl 0 rfl) ?_
  refine lv_iconst (v := 0) hx hb dX9_keep_1 (by decide) ?_
  refine va_put (D := (dC, dI)) (ci := 8) (v := .int 0) (ty := .int) (C := RX9) (T := TX9) (N := 44) hx hb hts inlX9 tyX9 tyX9_ok nmX9 hown hK hP hD hS 0 rgL6_3f800dd rfl 0 (by decide) (hts (.fieldLink RX9 85 "ClosedUntilModel" "thrown" "I") qw_408) (fun _ h9 => h9) rfl (by decide +kernel) rfl rfl (Nat.le_of_ble_eq_true rfl) dX9_keep_2 (fun H locs hP9 hD9 hS9 => ?_)
  clear hP hD hS
  obtain ⟨hP, hD⟩ := rgS6_fcbeb75 (e := (a0, .inr (8, [.int 0, .int a0_1, .int a0_2, .int a0_3, .ref a0_4, .int a0_5, .int a0_6, .int a0_7, .int a0_8, .int a0_9, .int a0_10, .long a0_11, .int a0_12, .int a0_13, .int a0_14, .int a0_15, .int a0_16, .int a0_17, .ref a0_18, .ref a0_19, .ref a0_20, .ref a0_21, .ref a0_22, .ref a0_23, .ref a0_24, .ref a0_25, .ref a0_26, .ref a0_27, .ref a0_28, .ref a0_29, .ref a0_30, .ref a0_31, .ref a0_32, .ref a0_33, .ref a0_34, .ref a0_35, .long a0_36, .int a0_37, .ref a0_38, .ref a0_39, .int a0_40, .ref a0_41, .ref a0_42, .ref a0_43]))) hP9 hD9 rfl
  have hS := hS9; clear hP9 hD9 hS9
  refine lv_iload_n hx hb dX9_keep_5 rfl (lv_at hl 1 rfl) ?_
  refine lv_i2l hx hb dX9_keep_6 rfl ?_
  refine lv_lconst (v := 0) hx hb dX9_keep_7 (by decide) ?_
  refine lv_lconst (v := 1) hx hb dX9_keep_8 (by decide) ?_
  have hPc := (rgP6_1d92626 hP)
  have hKc := (rgK5_6e78cbf hK)
  refine vp_callSi ((va_runS (As := [.long (a1.toInt64), .long 0, .long 1]) (rest := []) ⟨hx, hb, hml, hown, hts⟩ (k_X9_within l dC dI g ((a1.toInt64)) (0) (1) (a1.toInt) (0) (1) (w_li rfl) (by decide) (by decide)) (va_cwS 3 hts (gwS qw_444 qw_445 qw_386 qw_443) rfl rfl rfl (by decide +kernel) ⟨Nat.le_of_ble_eq_true rfl, Nat.le_of_ble_eq_true rfl⟩) ⟨fun a U g9 mk q => ⟨q.1, q.2.1, va_K.moved (u := U) (U := U.calling g9 mk a) (Vm.Alike.refl U.vm) q.2.2.1, Ev.bl q.2.2.2⟩, fun U hU hW => ⟨rfl, atB hU hPc, va_K.moved hW.alike hKc, hE.go hS (fun _ h => h.elim) hU hW⟩⟩ rfl rfl hl.1 rfl (lv_room (Nat.le_of_ble_eq_true rfl)) dX9_keep_9 ⟨Nat.le_of_ble_eq_true rfl, Nat.le_of_ble_eq_true rfl⟩)).run (fun r1 h_r1 => ?_)
  have h_r1 : (r1 = 0 ∨ r1 = 1) ∧ ((r1.toInt = 1 ∧ 0 ≤ a1.toInt ∧ a1.toInt ≤ 1) ∨ (r1.toInt = 0 ∧ ¬ (0 ≤ a1.toInt ∧ a1.toInt ≤ 1))) := h_r1
  have b_r1 := z01 h_r1.1
  refine lv_if_eq (tgt := 28) hx hb dX9_keep_12 (by decide) (fun c12_2 => ?_) (fun c12_2 => ?_)
  · have c12_2 : r1.toInt = 0 := (cv_eq rfl (by decide)).mp c12_2
    refine lv_iconst (v := 0) hx hb dX9_keep_28 (by decide) ?_
    have qc0 : (0 : Int32).toInt = 0 := by decide
    refine W.widen (k := 0) (n := 0) (Nat.le_of_ble_eq_true rfl) (Nat.le_of_ble_eq_true rfl) ?_
    have hP9 := hP
    have hD9 := hD
    have hK9 := (rgK5_6e78cbf hK)
    have hf9_0 : (0 ≤ a0_40.toInt ∧ a0_40.toInt ≤ 12) := by omega
    have hf9_1 : ((0 : Int32) = 0 ∨ (0 : Int32) = 1) := (by decide)
    have hf9_2 : (RowOk (a0_20_f 0).toInt a0_38_f 0) := hms
    have hf9_3 : (MU (a0_20_f 0).toInt a0_39_f a0_40) := hmu
    have hf9_4 : (MK (a0_20_f 0).toInt a0_41_f a0_42_f) := hmk
    exact W.zret (v := 0) hx hb hr rfl (fun t ht hW => ⟨⟨0, 0, rfl, rfl, 0, a0_40, a0_38_f, a0_41_f, a0_42_f, hf9_0, hf9_1, hf9_2, hf9_3, hf9_4, atB ht hP9, va_K.moved hW.alike hK9, hD9⟩, hS.F ht⟩) hS.2.2 dX9_keep_29
  · have c12_2 : ¬ (r1.toInt = 0) := mt (cv_eq rfl (by decide)).mpr c12_2
    refine lv_iload_n hx hb dX9_keep_15 rfl (lv_at hl 2 rfl) ?_
    refine lv_if_eq (tgt := 30) hx hb dX9_keep_16 (by decide) (fun c16_3 => ?_) (fun c16_3 => ?_)
    · have c16_3 : a2.toInt = 0 := (cv_eq rfl (by decide)).mp c16_3
      refine lv_iload_n hx hb dX9_keep_30 rfl (lv_at hl 2 rfl) ?_
      refine lv_if_eq (tgt := 74) hx hb dX9_keep_31 (by decide) (fun c31_4 => ?_) (fun c31_4 => ?_)
      · have c31_4 : a2.toInt = 0 := (cv_eq rfl (by decide)).mp c31_4
        have hcu := clE (u := a1) (by omega)
        refine lv_iconst (v := 0) hx hb dX9_keep_74 (by decide) ?_
        refine lv_istore_n (lv' := [(3, .int 0), (0, .ref a0), (1, .int a1), (2, .int a2)]) hx hb dX9_keep_75 rfl hl (by decide) rfl (fun ls hl => ?_)
        have qc0 : (0 : Int32).toInt = 0 := by decide
        refine wloop (fun n H locs ls => ∃ (l76_3 : Int32) (w76_4 : Nat → Int32), n = (2147483647 - l76_3.toInt).toNat ∧ (0 ≤ l76_3.toInt) ∧ (OUT1 (176 * a1.toNatClampNeg) a0_41_f w76_4) ∧ (CPY w76_4 a0_38_f (176 * a1.toNatClampNeg) 0 l76_3) ∧ lv_has ls 4 [(3, .int l76_3), (0, .ref a0), (1, .int a1), (2, .int a2)] ∧ va_P (dC, dI) vwCl [(a0, .inr (8, [.int 0, .int a0_1, .int a0_2, .int a0_3, .ref a0_4, .int a0_5, .int a0_6, .int a0_7, .int a0_8, .int a0_9, .int a0_10, .long a0_11, .int a0_12, .int a0_13, .int a0_14, .int a0_15, .int a0_16, .int a0_17, .ref a0_18, .ref a0_19, .ref a0_20, .ref a0_21, .ref a0_22, .ref a0_23, .ref a0_24, .ref a0_25, .ref a0_26, .ref a0_27, .ref a0_28, .ref a0_29, .ref a0_30, .ref a0_31, .ref a0_32, .ref a0_33, .ref a0_34, .ref a0_35, .long a0_36, .int a0_37, .ref a0_38, .ref a0_39, .int a0_40, .ref a0_41, .ref a0_42, .ref a0_43])), (a0_20, .inl (a0_20_c, 2, .inl a0_20_f)), (a0_38, .inl (a0_38_c, 176, .inl a0_38_f)), (a0_39, .inl (a0_39_c, 2112, .inl a0_39_f)), (a0_41, .inl (a0_41_c, 352, .inl w76_4)), (a0_42, .inl (a0_42_c, 2, .inl a0_42_f))] H ∧ va_D A [(a0, .inr (8, [.int 0, .int a0_1, .int a0_2, .int a0_3, .ref a0_4, .int a0_5, .int a0_6, .int a0_7, .int a0_8, .int a0_9, .int a0_10, .long a0_11, .int a0_12, .int a0_13, .int a0_14, .int a0_15, .int a0_16, .int a0_17, .ref a0_18, .ref a0_19, .ref a0_20, .ref a0_21, .ref a0_22, .ref a0_23, .ref a0_24, .ref a0_25, .ref a0_26, .ref a0_27, .ref a0_28, .ref a0_29, .ref a0_30, .ref a0_31, .ref a0_32, .ref a0_33, .ref a0_34, .ref a0_35, .long a0_36, .int a0_37, .ref a0_38, .ref a0_39, .int a0_40, .ref a0_41, .ref a0_42, .ref a0_43])), (a0_20, .inl (a0_20_c, 2, .inl a0_20_f)), (a0_38, .inl (a0_38_c, 176, .inl a0_38_f)), (a0_39, .inl (a0_39_c, 2112, .inl a0_39_f)), (a0_41, .inl (a0_41_c, 352, .inl w76_4)), (a0_42, .inl (a0_42_c, 2, .inl a0_42_f))] ∧ va_S A s.heap H locs) ?_ ((2147483647 - (0 : Int32).toInt).toNat) _ _ _ ⟨0, a0_41_f, rfl, (by omega), OUT1.rf, (CPY.nil (by omega)), lv_sub hl [0, 1, 2, 3] rfl, hP, hD, hS⟩
        intro n76 H locs ls hI ih76
        obtain ⟨l76_3, w76_4, hn76, g_l76_3, gx76_0, gx76_1, hl, hP, hD, hS⟩ := hI
        have b_l76_3 := i32b l76_3
        refine lv_iload_n hx hb dX9_keep_76 rfl (lv_at hl 0 rfl) ?_
        refine lv_sipush (v := 176) hx hb dX9_keep_77 (by decide) ?_
        refine lv_icmp_ge (tgt := 107) hx hb dX9_keep_80 (by decide) (fun c80_5 => ?_) (fun c80_5 => ?_)
        · have c80_5 : 176 ≤ l76_3.toInt := (cv_le (by decide) rfl).mp c80_5
          refine lv_aload_n hx hb dX9_keep_107 rfl (lv_at hl 1 rfl) ?_
          refine va_get (D := (dC, dI)) (ci := 8) (v := .ref a0_42) (C := RX9) (T := TX9) (N := 44) hx hb hts inlX9 hown hK hP 0 rgL6_3f800dd rfl 42 (by decide) (hts (.fieldLink RX9 79 "ClosedUntilModel" "isKept" "[Z") qw_596) (fun _ h9 => h9) rfl dX9_keep_108 ?_
          refine lv_iload_n hx hb dX9_keep_111 rfl (lv_at hl 2 rfl) ?_
          refine lv_iconst (v := 1) hx hb dX9_keep_112 (by decide) ?_
          refine va_zast hx hb hK hP hD hS 5 4 rgL6_bd8047c rgT5_860c1f5 (vinI (by omega) (by omega)) dX9_keep_113 (fun H locs hP9 hD9 hS9 => ?_)
          obtain ⟨y6, e_y6⟩ : ∃ y, (upd a0_42_f a1.toNatClampNeg (vp_nar .boolean (1))) = y := ⟨_, rfl⟩
          clear hP hD hS
          obtain ⟨hP, hD⟩ := rgS6_1cc86d4 (e := (a0_42, .inl (a0_42_c, 2, .inl y6))) hP9 hD9 (congrArg (fun z9 => (((a0_42, .inl (a0_42_c, 2, .inl z9)) : Nat × va_E))) e_y6)
          have hS := hS9; clear hP9 hD9 hS9
          refine lv_iconst (v := 1) hx hb dX9_keep_114 (by decide) ?_
          have qc0 : (0 : Int32).toInt = 0 := by decide
          have qc1 : (1 : Int32).toInt = 1 := by decide
          refine W.widen (k := 0) (n := 0) (Nat.le_of_ble_eq_true rfl) (Nat.le_of_ble_eq_true rfl) ?_
          have hP9 := hP
          have hD9 := hD
          have hK9 := (rgK5_6e78cbf hK)
          have hf9_0 : (0 ≤ a0_40.toInt ∧ a0_40.toInt ≤ 12) := by omega
          have hf9_1 : ((1 : Int32) = 0 ∨ (1 : Int32) = 1) := (by decide)
          have hf9_2 : (RowOk (a0_20_f 0).toInt a0_38_f 0) := hms
          have hf9_3 : (MU (a0_20_f 0).toInt a0_39_f a0_40) := hmu
          have hf9_4 : (MK (a0_20_f 0).toInt w76_4 y6) := MK.push hmk hms (by omega) (c := a1) (by omega) e_y6 gx76_0 gx76_1 (by omega)
          exact W.zret (v := 1) hx hb hr rfl (fun t ht hW => ⟨⟨1, 1, rfl, rfl, 0, a0_40, a0_38_f, w76_4, y6, hf9_0, hf9_1, hf9_2, hf9_3, hf9_4, atB ht hP9, va_K.moved hW.alike hK9, hD9⟩, hS.F ht⟩) hS.2.2 dX9_keep_115
        · have c80_5 : ¬ (176 ≤ l76_3.toInt) := mt (cv_le (by decide) rfl).mpr c80_5
          refine lv_aload_n hx hb dX9_keep_83 rfl (lv_at hl 1 rfl) ?_
          refine va_get (D := (dC, dI)) (ci := 8) (v := .ref a0_41) (C := RX9) (T := TX9) (N := 44) hx hb hts inlX9 hown hK hP 0 rgL6_3f800dd rfl 41 (by decide) (hts (.fieldLink RX9 76 "ClosedUntilModel" "kept" "[I") qw_654) (fun _ h9 => h9) rfl dX9_keep_84 ?_
          refine lv_sipush (v := 176) hx hb dX9_keep_87 (by decide) ?_
          refine lv_iload_n hx hb dX9_keep_90 rfl (lv_at hl 2 rfl) ?_
          refine lv_imul hx hb dX9_keep_91 ?_
          refine lv_topi (fun x7 e_x7 => ?_)
          try have e_x7 := ti_mul e_x7 (show (176 : Int32).toInt = 176 by decide) rfl (by omega)
          refine lv_iload_n hx hb dX9_keep_92 rfl (lv_at hl 0 rfl) ?_
          refine lv_iadd hx hb dX9_keep_93 ?_
          refine lv_topi (fun x8 e_x8 => ?_)
          try have e_x8 := ti_add e_x8 rfl rfl (by omega)
          refine lv_aload_n hx hb dX9_keep_94 rfl (lv_at hl 1 rfl) ?_
          refine va_get (D := (dC, dI)) (ci := 8) (v := .ref a0_38) (C := RX9) (T := TX9) (N := 44) hx hb hts inlX9 hown hK hP 0 rgL6_3f800dd rfl 38 (by decide) (hts (.fieldLink RX9 70 "ClosedUntilModel" "s" "[I") qw_502) (fun _ h9 => h9) rfl dX9_keep_95 ?_
          refine lv_iload_n hx hb dX9_keep_98 rfl (lv_at hl 0 rfl) ?_
          refine va_iald hx hb hK hP 2 1 rgL6_5db1281 rgT5_06bc212 (vinI (by omega) (by omega)) dX9_keep_99 ?_
          refine lv_topi (fun x9 e_x9 => ?_)
          have q_x9 := congrArg Int32.toInt e_x9
          have b_x9 := i32b x9
          refine va_iast hx hb hK hP hD hS 4 3 rgL6_fb60be2 rgT5_5f7a9a6 (vinI (by omega) (by omega)) dX9_keep_100 (fun H locs hP9 hD9 hS9 => ?_)
          obtain ⟨y10, e_y10⟩ : ∃ y, (upd w76_4 x8.toNatClampNeg x9) = y := ⟨_, rfl⟩
          clear hP hD hS
          obtain ⟨hP, hD⟩ := rgS6_bfeb194 (e := (a0_41, .inl (a0_41_c, 352, .inl y10))) hP9 hD9 (congrArg (fun z9 => (((a0_41, .inl (a0_41_c, 352, .inl z9)) : Nat × va_E))) e_y10)
          have hS := hS9; clear hP9 hD9 hS9
          obtain ⟨x11, e_x11⟩ : ∃ y : Int32, y = l76_3 + 1 := ⟨_, rfl⟩
          refine lv_iinc (v := x11) (lv' := [(3, .int x11), (0, .ref a0), (1, .int a1), (2, .int a2)]) hx hb dX9_keep_101 hl (k := 0) rfl (by rw [e_x11]; rfl) (by decide) rfl (fun ls hl => ?_)
          try have e_x11 := ti_add e_x11 rfl (show (1 : Int32).toInt = 1 by decide) (by omega)
          refine lv_goto (tgt := 76) hx hb dX9_keep_104 (by decide) ?_
          exact ih76 ((2147483647 - x11.toInt).toNat) _ _ _ (by omega) ⟨x11, y10, rfl, (by omega), (OUT1.step gx76_0 e_y10 (kI (by omega)) (clI (by omega) (by omega))), (CPY.step gx76_1 e_y10 e_x9 (by omega) (by omega) (by omega) (by omega)), lv_sub hl [0, 1, 2, 3] rfl, hP, hD, hS⟩
      · have c31_4 : ¬ (a2.toInt = 0) := mt (cv_eq rfl (by decide)).mpr c31_4
        have hcu := clE (u := a1) (by omega)
        refine lv_iconst (v := 0) hx hb dX9_keep_34 (by decide) ?_
        refine lv_istore_n (lv' := [(3, .int 0), (0, .ref a0), (1, .int a1), (2, .int a2)]) hx hb dX9_keep_35 rfl hl (by decide) rfl (fun ls hl => ?_)
        have qc0 : (0 : Int32).toInt = 0 := by decide
        refine wloop (fun n H locs ls => ∃ (l36_3 : Int32) (w36_2 : Nat → Int32), n = (2147483647 - l36_3.toInt).toNat ∧ (0 ≤ l36_3.toInt) ∧ (CPY w36_2 a0_41_f 0 (176 * a1.toNatClampNeg) l36_3) ∧ lv_has ls 4 [(3, .int l36_3), (0, .ref a0), (1, .int a1), (2, .int a2)] ∧ va_P (dC, dI) vwCl [(a0, .inr (8, [.int 0, .int a0_1, .int a0_2, .int a0_3, .ref a0_4, .int a0_5, .int a0_6, .int a0_7, .int a0_8, .int a0_9, .int a0_10, .long a0_11, .int a0_12, .int a0_13, .int a0_14, .int a0_15, .int a0_16, .int a0_17, .ref a0_18, .ref a0_19, .ref a0_20, .ref a0_21, .ref a0_22, .ref a0_23, .ref a0_24, .ref a0_25, .ref a0_26, .ref a0_27, .ref a0_28, .ref a0_29, .ref a0_30, .ref a0_31, .ref a0_32, .ref a0_33, .ref a0_34, .ref a0_35, .long a0_36, .int a0_37, .ref a0_38, .ref a0_39, .int a0_40, .ref a0_41, .ref a0_42, .ref a0_43])), (a0_20, .inl (a0_20_c, 2, .inl a0_20_f)), (a0_38, .inl (a0_38_c, 176, .inl w36_2)), (a0_39, .inl (a0_39_c, 2112, .inl a0_39_f)), (a0_41, .inl (a0_41_c, 352, .inl a0_41_f)), (a0_42, .inl (a0_42_c, 2, .inl a0_42_f))] H ∧ va_D A [(a0, .inr (8, [.int 0, .int a0_1, .int a0_2, .int a0_3, .ref a0_4, .int a0_5, .int a0_6, .int a0_7, .int a0_8, .int a0_9, .int a0_10, .long a0_11, .int a0_12, .int a0_13, .int a0_14, .int a0_15, .int a0_16, .int a0_17, .ref a0_18, .ref a0_19, .ref a0_20, .ref a0_21, .ref a0_22, .ref a0_23, .ref a0_24, .ref a0_25, .ref a0_26, .ref a0_27, .ref a0_28, .ref a0_29, .ref a0_30, .ref a0_31, .ref a0_32, .ref a0_33, .ref a0_34, .ref a0_35, .long a0_36, .int a0_37, .ref a0_38, .ref a0_39, .int a0_40, .ref a0_41, .ref a0_42, .ref a0_43])), (a0_20, .inl (a0_20_c, 2, .inl a0_20_f)), (a0_38, .inl (a0_38_c, 176, .inl w36_2)), (a0_39, .inl (a0_39_c, 2112, .inl a0_39_f)), (a0_41, .inl (a0_41_c, 352, .inl a0_41_f)), (a0_42, .inl (a0_42_c, 2, .inl a0_42_f))] ∧ va_S A s.heap H locs) ?_ ((2147483647 - (0 : Int32).toInt).toNat) _ _ _ ⟨0, a0_38_f, rfl, (by omega), (CPY.nil (by omega)), lv_sub hl [0, 1, 2, 3] rfl, hP, hD, hS⟩
        intro n36 H locs ls hI ih36
        obtain ⟨l36_3, w36_2, hn36, g_l36_3, gx36_0, hl, hP, hD, hS⟩ := hI
        have b_l36_3 := i32b l36_3
        refine lv_iload_n hx hb dX9_keep_36 rfl (lv_at hl 0 rfl) ?_
        refine lv_sipush (v := 176) hx hb dX9_keep_37 (by decide) ?_
        refine lv_icmp_ge (tgt := 67) hx hb dX9_keep_40 (by decide) (fun c40_12 => ?_) (fun c40_12 => ?_)
        · have c40_12 : 176 ≤ l36_3.toInt := (cv_le (by decide) rfl).mp c40_12
          refine lv_aload_n hx hb dX9_keep_67 rfl (lv_at hl 1 rfl) ?_
          refine lv_iconst (v := 0) hx hb dX9_keep_68 (by decide) ?_
          refine va_put (D := (dC, dI)) (ci := 8) (v := .int 0) (ty := .int) (C := RX9) (T := TX9) (N := 44) hx hb hts inlX9 tyX9 tyX9_ok nmX9 hown hK hP hD hS 0 rgL6_3f800dd rfl 40 (by decide) (hts (.fieldLink RX9 310 "ClosedUntilModel" "undos" "I") qw_552) (fun _ h9 => h9) rfl (by decide +kernel) rfl rfl (Nat.le_of_ble_eq_true rfl) dX9_keep_69 (fun H locs hP9 hD9 hS9 => ?_)
          clear hP hD hS
          obtain ⟨hP, hD⟩ := rgS6_fcbeb75 (e := (a0, .inr (8, [.int 0, .int a0_1, .int a0_2, .int a0_3, .ref a0_4, .int a0_5, .int a0_6, .int a0_7, .int a0_8, .int a0_9, .int a0_10, .long a0_11, .int a0_12, .int a0_13, .int a0_14, .int a0_15, .int a0_16, .int a0_17, .ref a0_18, .ref a0_19, .ref a0_20, .ref a0_21, .ref a0_22, .ref a0_23, .ref a0_24, .ref a0_25, .ref a0_26, .ref a0_27, .ref a0_28, .ref a0_29, .ref a0_30, .ref a0_31, .ref a0_32, .ref a0_33, .ref a0_34, .ref a0_35, .long a0_36, .int a0_37, .ref a0_38, .ref a0_39, .int 0, .ref a0_41, .ref a0_42, .ref a0_43]))) hP9 hD9 rfl
          have hS := hS9; clear hP9 hD9 hS9
          refine lv_iconst (v := 1) hx hb dX9_keep_72 (by decide) ?_
          have qc0 : (0 : Int32).toInt = 0 := by decide
          have qc1 : (1 : Int32).toInt = 1 := by decide
          refine W.widen (k := 0) (n := 0) (Nat.le_of_ble_eq_true rfl) (Nat.le_of_ble_eq_true rfl) ?_
          have hP9 := hP
          have hD9 := hD
          have hK9 := (rgK5_6e78cbf hK)
          have hf9_0 : (0 ≤ (0 : Int32).toInt ∧ (0 : Int32).toInt ≤ 12) := by omega
          have hf9_1 : ((1 : Int32) = 0 ∨ (1 : Int32) = 1) := (by decide)
          have hf9_2 : (RowOk (a0_20_f 0).toInt w36_2 0) := by exfalso; omega
          have hf9_3 : (MU (a0_20_f 0).toInt a0_39_f (0 : Int32)) := MU.nil (by omega)
          have hf9_4 : (MK (a0_20_f 0).toInt a0_41_f a0_42_f) := hmk
          exact W.zret (v := 1) hx hb hr rfl (fun t ht hW => ⟨⟨1, 1, rfl, rfl, 0, 0, w36_2, a0_41_f, a0_42_f, hf9_0, hf9_1, hf9_2, hf9_3, hf9_4, atB ht hP9, va_K.moved hW.alike hK9, hD9⟩, hS.F ht⟩) hS.2.2 dX9_keep_73
        · have c40_12 : ¬ (176 ≤ l36_3.toInt) := mt (cv_le (by decide) rfl).mpr c40_12
          refine lv_aload_n hx hb dX9_keep_43 rfl (lv_at hl 1 rfl) ?_
          refine va_get (D := (dC, dI)) (ci := 8) (v := .ref a0_38) (C := RX9) (T := TX9) (N := 44) hx hb hts inlX9 hown hK hP 0 rgL6_3f800dd rfl 38 (by decide) (hts (.fieldLink RX9 70 "ClosedUntilModel" "s" "[I") qw_502) (fun _ h9 => h9) rfl dX9_keep_44 ?_
          refine lv_iload_n hx hb dX9_keep_47 rfl (lv_at hl 0 rfl) ?_
          refine lv_aload_n hx hb dX9_keep_48 rfl (lv_at hl 1 rfl) ?_
          refine va_get (D := (dC, dI)) (ci := 8) (v := .ref a0_41) (C := RX9) (T := TX9) (N := 44) hx hb hts inlX9 hown hK hP 0 rgL6_3f800dd rfl 41 (by decide) (hts (.fieldLink RX9 76 "ClosedUntilModel" "kept" "[I") qw_654) (fun _ h9 => h9) rfl dX9_keep_49 ?_
          refine lv_sipush (v := 176) hx hb dX9_keep_52 (by decide) ?_
          refine lv_iload_n hx hb dX9_keep_55 rfl (lv_at hl 2 rfl) ?_
          refine lv_imul hx hb dX9_keep_56 ?_
          refine lv_topi (fun x13 e_x13 => ?_)
          try have e_x13 := ti_mul e_x13 (show (176 : Int32).toInt = 176 by decide) rfl (by omega)
          refine lv_iload_n hx hb dX9_keep_57 rfl (lv_at hl 0 rfl) ?_
          refine lv_iadd hx hb dX9_keep_58 ?_
          refine lv_topi (fun x14 e_x14 => ?_)
          try have e_x14 := ti_add e_x14 rfl rfl (by omega)
          refine va_iald hx hb hK hP 4 3 rgL6_fb60be2 rgT5_5f7a9a6 (vinI (by omega) (by omega)) dX9_keep_59 ?_
          refine lv_topi (fun x15 e_x15 => ?_)
          have q_x15 := congrArg Int32.toInt e_x15
          have b_x15 := i32b x15
          refine va_iast hx hb hK hP hD hS 2 1 rgL6_5db1281 rgT5_06bc212 (vinI (by omega) (by omega)) dX9_keep_60 (fun H locs hP9 hD9 hS9 => ?_)
          obtain ⟨y16, e_y16⟩ : ∃ y, (upd w36_2 l36_3.toNatClampNeg x15) = y := ⟨_, rfl⟩
          clear hP hD hS
          obtain ⟨hP, hD⟩ := rgS6_c197770 (e := (a0_38, .inl (a0_38_c, 176, .inl y16))) hP9 hD9 (congrArg (fun z9 => (((a0_38, .inl (a0_38_c, 176, .inl z9)) : Nat × va_E))) e_y16)
          have hS := hS9; clear hP9 hD9 hS9
          obtain ⟨x17, e_x17⟩ : ∃ y : Int32, y = l36_3 + 1 := ⟨_, rfl⟩
          refine lv_iinc (v := x17) (lv' := [(3, .int x17), (0, .ref a0), (1, .int a1), (2, .int a2)]) hx hb dX9_keep_61 hl (k := 0) rfl (by rw [e_x17]; rfl) (by decide) rfl (fun ls hl => ?_)
          try have e_x17 := ti_add e_x17 rfl (show (1 : Int32).toInt = 1 by decide) (by omega)
          refine lv_goto (tgt := 36) hx hb dX9_keep_64 (by decide) ?_
          exact ih36 ((2147483647 - x17.toInt).toNat) _ _ _ (by omega) ⟨x17, y16, rfl, (by omega), (CPY.step gx36_0 e_y16 e_x15 (by omega) (by omega) (by omega) (by omega)), lv_sub hl [0, 1, 2, 3] rfl, hP, hD, hS⟩
    · have c16_3 : ¬ (a2.toInt = 0) := mt (cv_eq rfl (by decide)).mpr c16_3
      refine lv_aload_n hx hb dX9_keep_19 rfl (lv_at hl 0 rfl) ?_
      refine va_get (D := (dC, dI)) (ci := 8) (v := .ref a0_42) (C := RX9) (T := TX9) (N := 44) hx hb hts inlX9 hown hK hP 0 rgL6_3f800dd rfl 42 (by decide) (hts (.fieldLink RX9 79 "ClosedUntilModel" "isKept" "[Z") qw_596) (fun _ h9 => h9) rfl dX9_keep_20 ?_
      refine lv_iload_n hx hb dX9_keep_23 rfl (lv_at hl 1 rfl) ?_
      refine va_zald hx hb hK hP 5 4 rgL6_bd8047c rgT5_860c1f5 (vinI (by omega) (by omega)) dX9_keep_24 ?_
      refine lv_topi (fun x18 e_x18 => ?_)
      have b_x18 := i32b x18
      refine lv_if_ne (tgt := 30) hx hb dX9_keep_25 (by decide) (fun c25_19 => ?_) (fun c25_19 => ?_)
      · have c25_19 : ¬ (x18.toInt = 0) := mt (cv_eq rfl (by decide)).mpr c25_19
        refine lv_iload_n hx hb dX9_keep_30 rfl (lv_at hl 2 rfl) ?_
        refine lv_if_eq (tgt := 74) hx hb dX9_keep_31 (by decide) (fun c31_20 => ?_) (fun c31_20 => ?_)
        · have c31_20 : a2.toInt = 0 := (cv_eq rfl (by decide)).mp c31_20
          have hcu := clE (u := a1) (by omega)
          refine lv_iconst (v := 0) hx hb dX9_keep_74 (by decide) ?_
          refine lv_istore_n (lv' := [(3, .int 0), (0, .ref a0), (1, .int a1), (2, .int a2)]) hx hb dX9_keep_75 rfl hl (by decide) rfl (fun ls hl => ?_)
          have qc0 : (0 : Int32).toInt = 0 := by decide
          refine wloop (fun n H locs ls => ∃ (l76_3 : Int32) (w76_4 : Nat → Int32), n = (2147483647 - l76_3.toInt).toNat ∧ (0 ≤ l76_3.toInt) ∧ (OUT1 (176 * a1.toNatClampNeg) a0_41_f w76_4) ∧ (CPY w76_4 a0_38_f (176 * a1.toNatClampNeg) 0 l76_3) ∧ lv_has ls 4 [(3, .int l76_3), (0, .ref a0), (1, .int a1), (2, .int a2)] ∧ va_P (dC, dI) vwCl [(a0, .inr (8, [.int 0, .int a0_1, .int a0_2, .int a0_3, .ref a0_4, .int a0_5, .int a0_6, .int a0_7, .int a0_8, .int a0_9, .int a0_10, .long a0_11, .int a0_12, .int a0_13, .int a0_14, .int a0_15, .int a0_16, .int a0_17, .ref a0_18, .ref a0_19, .ref a0_20, .ref a0_21, .ref a0_22, .ref a0_23, .ref a0_24, .ref a0_25, .ref a0_26, .ref a0_27, .ref a0_28, .ref a0_29, .ref a0_30, .ref a0_31, .ref a0_32, .ref a0_33, .ref a0_34, .ref a0_35, .long a0_36, .int a0_37, .ref a0_38, .ref a0_39, .int a0_40, .ref a0_41, .ref a0_42, .ref a0_43])), (a0_20, .inl (a0_20_c, 2, .inl a0_20_f)), (a0_38, .inl (a0_38_c, 176, .inl a0_38_f)), (a0_39, .inl (a0_39_c, 2112, .inl a0_39_f)), (a0_41, .inl (a0_41_c, 352, .inl w76_4)), (a0_42, .inl (a0_42_c, 2, .inl a0_42_f))] H ∧ va_D A [(a0, .inr (8, [.int 0, .int a0_1, .int a0_2, .int a0_3, .ref a0_4, .int a0_5, .int a0_6, .int a0_7, .int a0_8, .int a0_9, .int a0_10, .long a0_11, .int a0_12, .int a0_13, .int a0_14, .int a0_15, .int a0_16, .int a0_17, .ref a0_18, .ref a0_19, .ref a0_20, .ref a0_21, .ref a0_22, .ref a0_23, .ref a0_24, .ref a0_25, .ref a0_26, .ref a0_27, .ref a0_28, .ref a0_29, .ref a0_30, .ref a0_31, .ref a0_32, .ref a0_33, .ref a0_34, .ref a0_35, .long a0_36, .int a0_37, .ref a0_38, .ref a0_39, .int a0_40, .ref a0_41, .ref a0_42, .ref a0_43])), (a0_20, .inl (a0_20_c, 2, .inl a0_20_f)), (a0_38, .inl (a0_38_c, 176, .inl a0_38_f)), (a0_39, .inl (a0_39_c, 2112, .inl a0_39_f)), (a0_41, .inl (a0_41_c, 352, .inl w76_4)), (a0_42, .inl (a0_42_c, 2, .inl a0_42_f))] ∧ va_S A s.heap H locs) ?_ ((2147483647 - (0 : Int32).toInt).toNat) _ _ _ ⟨0, a0_41_f, rfl, (by omega), OUT1.rf, (CPY.nil (by omega)), lv_sub hl [0, 1, 2, 3] rfl, hP, hD, hS⟩
          intro n76 H locs ls hI ih76
          obtain ⟨l76_3, w76_4, hn76, g_l76_3, gx76_0, gx76_1, hl, hP, hD, hS⟩ := hI
          have b_l76_3 := i32b l76_3
          refine lv_iload_n hx hb dX9_keep_76 rfl (lv_at hl 0 rfl) ?_
          refine lv_sipush (v := 176) hx hb dX9_keep_77 (by decide) ?_
          refine lv_icmp_ge (tgt := 107) hx hb dX9_keep_80 (by decide) (fun c80_21 => ?_) (fun c80_21 => ?_)
          · have c80_21 : 176 ≤ l76_3.toInt := (cv_le (by decide) rfl).mp c80_21
            refine lv_aload_n hx hb dX9_keep_107 rfl (lv_at hl 1 rfl) ?_
            refine va_get (D := (dC, dI)) (ci := 8) (v := .ref a0_42) (C := RX9) (T := TX9) (N := 44) hx hb hts inlX9 hown hK hP 0 rgL6_3f800dd rfl 42 (by decide) (hts (.fieldLink RX9 79 "ClosedUntilModel" "isKept" "[Z") qw_596) (fun _ h9 => h9) rfl dX9_keep_108 ?_
            refine lv_iload_n hx hb dX9_keep_111 rfl (lv_at hl 2 rfl) ?_
            refine lv_iconst (v := 1) hx hb dX9_keep_112 (by decide) ?_
            refine va_zast hx hb hK hP hD hS 5 4 rgL6_bd8047c rgT5_860c1f5 (vinI (by omega) (by omega)) dX9_keep_113 (fun H locs hP9 hD9 hS9 => ?_)
            obtain ⟨y22, e_y22⟩ : ∃ y, (upd a0_42_f a1.toNatClampNeg (vp_nar .boolean (1))) = y := ⟨_, rfl⟩
            clear hP hD hS
            obtain ⟨hP, hD⟩ := rgS6_1cc86d4 (e := (a0_42, .inl (a0_42_c, 2, .inl y22))) hP9 hD9 (congrArg (fun z9 => (((a0_42, .inl (a0_42_c, 2, .inl z9)) : Nat × va_E))) e_y22)
            have hS := hS9; clear hP9 hD9 hS9
            refine lv_iconst (v := 1) hx hb dX9_keep_114 (by decide) ?_
            have qc0 : (0 : Int32).toInt = 0 := by decide
            have qc1 : (1 : Int32).toInt = 1 := by decide
            refine W.widen (k := 0) (n := 0) (Nat.le_of_ble_eq_true rfl) (Nat.le_of_ble_eq_true rfl) ?_
            have hP9 := hP
            have hD9 := hD
            have hK9 := (rgK5_6e78cbf hK)
            have hf9_0 : (0 ≤ a0_40.toInt ∧ a0_40.toInt ≤ 12) := by omega
            have hf9_1 : ((1 : Int32) = 0 ∨ (1 : Int32) = 1) := (by decide)
            have hf9_2 : (RowOk (a0_20_f 0).toInt a0_38_f 0) := hms
            have hf9_3 : (MU (a0_20_f 0).toInt a0_39_f a0_40) := hmu
            have hf9_4 : (MK (a0_20_f 0).toInt w76_4 y22) := MK.push hmk hms (by omega) (c := a1) (by omega) e_y22 gx76_0 gx76_1 (by omega)
            exact W.zret (v := 1) hx hb hr rfl (fun t ht hW => ⟨⟨1, 1, rfl, rfl, 0, a0_40, a0_38_f, w76_4, y22, hf9_0, hf9_1, hf9_2, hf9_3, hf9_4, atB ht hP9, va_K.moved hW.alike hK9, hD9⟩, hS.F ht⟩) hS.2.2 dX9_keep_115
          · have c80_21 : ¬ (176 ≤ l76_3.toInt) := mt (cv_le (by decide) rfl).mpr c80_21
            refine lv_aload_n hx hb dX9_keep_83 rfl (lv_at hl 1 rfl) ?_
            refine va_get (D := (dC, dI)) (ci := 8) (v := .ref a0_41) (C := RX9) (T := TX9) (N := 44) hx hb hts inlX9 hown hK hP 0 rgL6_3f800dd rfl 41 (by decide) (hts (.fieldLink RX9 76 "ClosedUntilModel" "kept" "[I") qw_654) (fun _ h9 => h9) rfl dX9_keep_84 ?_
            refine lv_sipush (v := 176) hx hb dX9_keep_87 (by decide) ?_
            refine lv_iload_n hx hb dX9_keep_90 rfl (lv_at hl 2 rfl) ?_
            refine lv_imul hx hb dX9_keep_91 ?_
            refine lv_topi (fun x23 e_x23 => ?_)
            try have e_x23 := ti_mul e_x23 (show (176 : Int32).toInt = 176 by decide) rfl (by omega)
            refine lv_iload_n hx hb dX9_keep_92 rfl (lv_at hl 0 rfl) ?_
            refine lv_iadd hx hb dX9_keep_93 ?_
            refine lv_topi (fun x24 e_x24 => ?_)
            try have e_x24 := ti_add e_x24 rfl rfl (by omega)
            refine lv_aload_n hx hb dX9_keep_94 rfl (lv_at hl 1 rfl) ?_
            refine va_get (D := (dC, dI)) (ci := 8) (v := .ref a0_38) (C := RX9) (T := TX9) (N := 44) hx hb hts inlX9 hown hK hP 0 rgL6_3f800dd rfl 38 (by decide) (hts (.fieldLink RX9 70 "ClosedUntilModel" "s" "[I") qw_502) (fun _ h9 => h9) rfl dX9_keep_95 ?_
            refine lv_iload_n hx hb dX9_keep_98 rfl (lv_at hl 0 rfl) ?_
            refine va_iald hx hb hK hP 2 1 rgL6_5db1281 rgT5_06bc212 (vinI (by omega) (by omega)) dX9_keep_99 ?_
            refine lv_topi (fun x25 e_x25 => ?_)
            have q_x25 := congrArg Int32.toInt e_x25
            have b_x25 := i32b x25
            refine va_iast hx hb hK hP hD hS 4 3 rgL6_fb60be2 rgT5_5f7a9a6 (vinI (by omega) (by omega)) dX9_keep_100 (fun H locs hP9 hD9 hS9 => ?_)
            obtain ⟨y26, e_y26⟩ : ∃ y, (upd w76_4 x24.toNatClampNeg x25) = y := ⟨_, rfl⟩
            clear hP hD hS
            obtain ⟨hP, hD⟩ := rgS6_bfeb194 (e := (a0_41, .inl (a0_41_c, 352, .inl y26))) hP9 hD9 (congrArg (fun z9 => (((a0_41, .inl (a0_41_c, 352, .inl z9)) : Nat × va_E))) e_y26)
            have hS := hS9; clear hP9 hD9 hS9
            obtain ⟨x27, e_x27⟩ : ∃ y : Int32, y = l76_3 + 1 := ⟨_, rfl⟩
            refine lv_iinc (v := x27) (lv' := [(3, .int x27), (0, .ref a0), (1, .int a1), (2, .int a2)]) hx hb dX9_keep_101 hl (k := 0) rfl (by rw [e_x27]; rfl) (by decide) rfl (fun ls hl => ?_)
            try have e_x27 := ti_add e_x27 rfl (show (1 : Int32).toInt = 1 by decide) (by omega)
            refine lv_goto (tgt := 76) hx hb dX9_keep_104 (by decide) ?_
            exact ih76 ((2147483647 - x27.toInt).toNat) _ _ _ (by omega) ⟨x27, y26, rfl, (by omega), (OUT1.step gx76_0 e_y26 (kI (by omega)) (clI (by omega) (by omega))), (CPY.step gx76_1 e_y26 e_x25 (by omega) (by omega) (by omega) (by omega)), lv_sub hl [0, 1, 2, 3] rfl, hP, hD, hS⟩
        · have c31_20 : ¬ (a2.toInt = 0) := mt (cv_eq rfl (by decide)).mpr c31_20
          have hcu := clE (u := a1) (by omega)
          refine lv_iconst (v := 0) hx hb dX9_keep_34 (by decide) ?_
          refine lv_istore_n (lv' := [(3, .int 0), (0, .ref a0), (1, .int a1), (2, .int a2)]) hx hb dX9_keep_35 rfl hl (by decide) rfl (fun ls hl => ?_)
          have qc0 : (0 : Int32).toInt = 0 := by decide
          refine wloop (fun n H locs ls => ∃ (l36_3 : Int32) (w36_2 : Nat → Int32), n = (2147483647 - l36_3.toInt).toNat ∧ (0 ≤ l36_3.toInt) ∧ (CPY w36_2 a0_41_f 0 (176 * a1.toNatClampNeg) l36_3) ∧ lv_has ls 4 [(3, .int l36_3), (0, .ref a0), (1, .int a1), (2, .int a2)] ∧ va_P (dC, dI) vwCl [(a0, .inr (8, [.int 0, .int a0_1, .int a0_2, .int a0_3, .ref a0_4, .int a0_5, .int a0_6, .int a0_7, .int a0_8, .int a0_9, .int a0_10, .long a0_11, .int a0_12, .int a0_13, .int a0_14, .int a0_15, .int a0_16, .int a0_17, .ref a0_18, .ref a0_19, .ref a0_20, .ref a0_21, .ref a0_22, .ref a0_23, .ref a0_24, .ref a0_25, .ref a0_26, .ref a0_27, .ref a0_28, .ref a0_29, .ref a0_30, .ref a0_31, .ref a0_32, .ref a0_33, .ref a0_34, .ref a0_35, .long a0_36, .int a0_37, .ref a0_38, .ref a0_39, .int a0_40, .ref a0_41, .ref a0_42, .ref a0_43])), (a0_20, .inl (a0_20_c, 2, .inl a0_20_f)), (a0_38, .inl (a0_38_c, 176, .inl w36_2)), (a0_39, .inl (a0_39_c, 2112, .inl a0_39_f)), (a0_41, .inl (a0_41_c, 352, .inl a0_41_f)), (a0_42, .inl (a0_42_c, 2, .inl a0_42_f))] H ∧ va_D A [(a0, .inr (8, [.int 0, .int a0_1, .int a0_2, .int a0_3, .ref a0_4, .int a0_5, .int a0_6, .int a0_7, .int a0_8, .int a0_9, .int a0_10, .long a0_11, .int a0_12, .int a0_13, .int a0_14, .int a0_15, .int a0_16, .int a0_17, .ref a0_18, .ref a0_19, .ref a0_20, .ref a0_21, .ref a0_22, .ref a0_23, .ref a0_24, .ref a0_25, .ref a0_26, .ref a0_27, .ref a0_28, .ref a0_29, .ref a0_30, .ref a0_31, .ref a0_32, .ref a0_33, .ref a0_34, .ref a0_35, .long a0_36, .int a0_37, .ref a0_38, .ref a0_39, .int a0_40, .ref a0_41, .ref a0_42, .ref a0_43])), (a0_20, .inl (a0_20_c, 2, .inl a0_20_f)), (a0_38, .inl (a0_38_c, 176, .inl w36_2)), (a0_39, .inl (a0_39_c, 2112, .inl a0_39_f)), (a0_41, .inl (a0_41_c, 352, .inl a0_41_f)), (a0_42, .inl (a0_42_c, 2, .inl a0_42_f))] ∧ va_S A s.heap H locs) ?_ ((2147483647 - (0 : Int32).toInt).toNat) _ _ _ ⟨0, a0_38_f, rfl, (by omega), (CPY.nil (by omega)), lv_sub hl [0, 1, 2, 3] rfl, hP, hD, hS⟩
          intro n36 H locs ls hI ih36
          obtain ⟨l36_3, w36_2, hn36, g_l36_3, gx36_0, hl, hP, hD, hS⟩ := hI
          have b_l36_3 := i32b l36_3
          refine lv_iload_n hx hb dX9_keep_36 rfl (lv_at hl 0 rfl) ?_
          refine lv_sipush (v := 176) hx hb dX9_keep_37 (by decide) ?_
          refine lv_icmp_ge (tgt := 67) hx hb dX9_keep_40 (by decide) (fun c40_28 => ?_) (fun c40_28 => ?_)
          · have c40_28 : 176 ≤ l36_3.toInt := (cv_le (by decide) rfl).mp c40_28
            refine lv_aload_n hx hb dX9_keep_67 rfl (lv_at hl 1 rfl) ?_
            refine lv_iconst (v := 0) hx hb dX9_keep_68 (by decide) ?_
            refine va_put (D := (dC, dI)) (ci := 8) (v := .int 0) (ty := .int) (C := RX9) (T := TX9) (N := 44) hx hb hts inlX9 tyX9 tyX9_ok nmX9 hown hK hP hD hS 0 rgL6_3f800dd rfl 40 (by decide) (hts (.fieldLink RX9 310 "ClosedUntilModel" "undos" "I") qw_552) (fun _ h9 => h9) rfl (by decide +kernel) rfl rfl (Nat.le_of_ble_eq_true rfl) dX9_keep_69 (fun H locs hP9 hD9 hS9 => ?_)
            clear hP hD hS
            obtain ⟨hP, hD⟩ := rgS6_fcbeb75 (e := (a0, .inr (8, [.int 0, .int a0_1, .int a0_2, .int a0_3, .ref a0_4, .int a0_5, .int a0_6, .int a0_7, .int a0_8, .int a0_9, .int a0_10, .long a0_11, .int a0_12, .int a0_13, .int a0_14, .int a0_15, .int a0_16, .int a0_17, .ref a0_18, .ref a0_19, .ref a0_20, .ref a0_21, .ref a0_22, .ref a0_23, .ref a0_24, .ref a0_25, .ref a0_26, .ref a0_27, .ref a0_28, .ref a0_29, .ref a0_30, .ref a0_31, .ref a0_32, .ref a0_33, .ref a0_34, .ref a0_35, .long a0_36, .int a0_37, .ref a0_38, .ref a0_39, .int 0, .ref a0_41, .ref a0_42, .ref a0_43]))) hP9 hD9 rfl
            have hS := hS9; clear hP9 hD9 hS9
            refine lv_iconst (v := 1) hx hb dX9_keep_72 (by decide) ?_
            have qc0 : (0 : Int32).toInt = 0 := by decide
            have qc1 : (1 : Int32).toInt = 1 := by decide
            refine W.widen (k := 0) (n := 0) (Nat.le_of_ble_eq_true rfl) (Nat.le_of_ble_eq_true rfl) ?_
            have hP9 := hP
            have hD9 := hD
            have hK9 := (rgK5_6e78cbf hK)
            have hf9_0 : (0 ≤ (0 : Int32).toInt ∧ (0 : Int32).toInt ≤ 12) := by omega
            have hf9_1 : ((1 : Int32) = 0 ∨ (1 : Int32) = 1) := (by decide)
            have hf9_2 : (RowOk (a0_20_f 0).toInt w36_2 0) := MK.at hmk (by omega) (c := a1) (by omega) e_x18 (by omega) gx36_0 (by omega)
            have hf9_3 : (MU (a0_20_f 0).toInt a0_39_f (0 : Int32)) := MU.nil (by omega)
            have hf9_4 : (MK (a0_20_f 0).toInt a0_41_f a0_42_f) := hmk
            exact W.zret (v := 1) hx hb hr rfl (fun t ht hW => ⟨⟨1, 1, rfl, rfl, 0, 0, w36_2, a0_41_f, a0_42_f, hf9_0, hf9_1, hf9_2, hf9_3, hf9_4, atB ht hP9, va_K.moved hW.alike hK9, hD9⟩, hS.F ht⟩) hS.2.2 dX9_keep_73
          · have c40_28 : ¬ (176 ≤ l36_3.toInt) := mt (cv_le (by decide) rfl).mpr c40_28
            refine lv_aload_n hx hb dX9_keep_43 rfl (lv_at hl 1 rfl) ?_
            refine va_get (D := (dC, dI)) (ci := 8) (v := .ref a0_38) (C := RX9) (T := TX9) (N := 44) hx hb hts inlX9 hown hK hP 0 rgL6_3f800dd rfl 38 (by decide) (hts (.fieldLink RX9 70 "ClosedUntilModel" "s" "[I") qw_502) (fun _ h9 => h9) rfl dX9_keep_44 ?_
            refine lv_iload_n hx hb dX9_keep_47 rfl (lv_at hl 0 rfl) ?_
            refine lv_aload_n hx hb dX9_keep_48 rfl (lv_at hl 1 rfl) ?_
            refine va_get (D := (dC, dI)) (ci := 8) (v := .ref a0_41) (C := RX9) (T := TX9) (N := 44) hx hb hts inlX9 hown hK hP 0 rgL6_3f800dd rfl 41 (by decide) (hts (.fieldLink RX9 76 "ClosedUntilModel" "kept" "[I") qw_654) (fun _ h9 => h9) rfl dX9_keep_49 ?_
            refine lv_sipush (v := 176) hx hb dX9_keep_52 (by decide) ?_
            refine lv_iload_n hx hb dX9_keep_55 rfl (lv_at hl 2 rfl) ?_
            refine lv_imul hx hb dX9_keep_56 ?_
            refine lv_topi (fun x29 e_x29 => ?_)
            try have e_x29 := ti_mul e_x29 (show (176 : Int32).toInt = 176 by decide) rfl (by omega)
            refine lv_iload_n hx hb dX9_keep_57 rfl (lv_at hl 0 rfl) ?_
            refine lv_iadd hx hb dX9_keep_58 ?_
            refine lv_topi (fun x30 e_x30 => ?_)
            try have e_x30 := ti_add e_x30 rfl rfl (by omega)
            refine va_iald hx hb hK hP 4 3 rgL6_fb60be2 rgT5_5f7a9a6 (vinI (by omega) (by omega)) dX9_keep_59 ?_
            refine lv_topi (fun x31 e_x31 => ?_)
            have q_x31 := congrArg Int32.toInt e_x31
            have b_x31 := i32b x31
            refine va_iast hx hb hK hP hD hS 2 1 rgL6_5db1281 rgT5_06bc212 (vinI (by omega) (by omega)) dX9_keep_60 (fun H locs hP9 hD9 hS9 => ?_)
            obtain ⟨y32, e_y32⟩ : ∃ y, (upd w36_2 l36_3.toNatClampNeg x31) = y := ⟨_, rfl⟩
            clear hP hD hS
            obtain ⟨hP, hD⟩ := rgS6_c197770 (e := (a0_38, .inl (a0_38_c, 176, .inl y32))) hP9 hD9 (congrArg (fun z9 => (((a0_38, .inl (a0_38_c, 176, .inl z9)) : Nat × va_E))) e_y32)
            have hS := hS9; clear hP9 hD9 hS9
            obtain ⟨x33, e_x33⟩ : ∃ y : Int32, y = l36_3 + 1 := ⟨_, rfl⟩
            refine lv_iinc (v := x33) (lv' := [(3, .int x33), (0, .ref a0), (1, .int a1), (2, .int a2)]) hx hb dX9_keep_61 hl (k := 0) rfl (by rw [e_x33]; rfl) (by decide) rfl (fun ls hl => ?_)
            try have e_x33 := ti_add e_x33 rfl (show (1 : Int32).toInt = 1 by decide) (by omega)
            refine lv_goto (tgt := 36) hx hb dX9_keep_64 (by decide) ?_
            exact ih36 ((2147483647 - x33.toInt).toNat) _ _ _ (by omega) ⟨x33, y32, rfl, (by omega), (CPY.step gx36_0 e_y32 e_x31 (by omega) (by omega) (by omega) (by omega)), lv_sub hl [0, 1, 2, 3] rfl, hP, hD, hS⟩
      · have c25_19 : x18.toInt = 0 := (cv_eq rfl (by decide)).mp c25_19
        refine lv_iconst (v := 0) hx hb dX9_keep_28 (by decide) ?_
        have qc0 : (0 : Int32).toInt = 0 := by decide
        refine W.widen (k := 0) (n := 0) (Nat.le_of_ble_eq_true rfl) (Nat.le_of_ble_eq_true rfl) ?_
        have hP9 := hP
        have hD9 := hD
        have hK9 := (rgK5_6e78cbf hK)
        have hf9_0 : (0 ≤ a0_40.toInt ∧ a0_40.toInt ≤ 12) := by omega
        have hf9_1 : ((0 : Int32) = 0 ∨ (0 : Int32) = 1) := (by decide)
        have hf9_2 : (RowOk (a0_20_f 0).toInt a0_38_f 0) := hms
        have hf9_3 : (MU (a0_20_f 0).toInt a0_39_f a0_40) := hmu
        have hf9_4 : (MK (a0_20_f 0).toInt a0_41_f a0_42_f) := hmk
        exact W.zret (v := 0) hx hb hr rfl (fun t ht hW => ⟨⟨0, 0, rfl, rfl, 0, a0_40, a0_38_f, a0_41_f, a0_42_f, hf9_0, hf9_1, hf9_2, hf9_3, hf9_4, atB ht hP9, va_K.moved hW.alike hK9, hD9⟩, hS.F ht⟩) hS.2.2 dX9_keep_29
set_option maxHeartbeats 4000000 in
set_option maxRecDepth 100000 in
theorem k_X9_count (l : Launch) (dC : Nat → ClassId) (dI : Nat → Nat → Nat) (g : Gv) (sz : Nat) (a0 : Nat) (a1 : Int32) (a0_0 : Int32) (a0_1 : Int32) (a0_2 : Int32) (a0_3 : Int32) (a0_4 : Nat) (a0_5 : Int32) (a0_6 : Int32) (a0_7 : Int32) (a0_8 : Int32) (a0_9 : Int32) (a0_10 : Int32) (a0_11 : Int64) (a0_12 : Int32) (a0_13 : Int32) (a0_14 : Int32) (a0_15 : Int32) (a0_16 : Int32) (a0_17 : Int32) (a0_18 : Nat) (a0_19 : Nat) (a0_20 : Nat) (a0_21 : Nat) (a0_22 : Nat) (a0_23 : Nat) (a0_24 : Nat) (a0_25 : Nat) (a0_26 : Nat) (a0_27 : Nat) (a0_28 : Nat) (a0_29 : Nat) (a0_30 : Nat) (a0_31 : Nat) (a0_32 : Nat) (a0_33 : Nat) (a0_34 : Nat) (a0_35 : Nat) (a0_36 : Int64) (a0_37 : Int32) (a0_38 : Nat) (a0_39 : Nat) (a0_40 : Int32) (a0_41 : Nat) (a0_42 : Nat) (a0_43 : Nat) (a0_18_c : ClassId) (a0_18_f : Nat → Int32) (a0_19_c : ClassId) (a0_19_f : Nat → Int32) (a0_20_c : ClassId) (a0_20_f : Nat → Int32) (a0_21_c : ClassId) (a0_21_f : Nat → Int32) (a0_38_c : ClassId) (a0_38_f : Nat → Int32) (h_a0_5 : 0 ≤ a0_5.toInt ∧ a0_5.toInt ≤ 1000) (h_a0_6 : 0 ≤ a0_6.toInt ∧ a0_6.toInt ≤ 1000) (h_a0_7 : 0 ≤ a0_7.toInt ∧ a0_7.toInt ≤ 1000) (h_a0_8 : 0 ≤ a0_8.toInt ∧ a0_8.toInt ≤ 1000) (h_a0_17 : 0 ≤ a0_17.toInt ∧ a0_17.toInt ≤ 1) (h_a0_37 : (-1) ≤ a0_37.toInt ∧ a0_37.toInt ≤ 23) (h_a0_40 : 0 ≤ a0_40.toInt ∧ a0_40.toInt ≤ 12) (h_a0_18_f : vr 0 8 a0_18_f) (h_a0_19_f : vr 0 4 a0_19_f) (h_a0_20_f : vr 0 24 a0_20_f) (h_a0_21_f : vr 0 12 a0_21_f) : Met l yX9_count (.code yX9_count cX9_count 2 (some .int) :: TBL) ({ frames := 1, cells := 0, slots := 0, locals := 22 }) (va_Pc [.ref a0, .int a1] (fun U => U.heap.size = sz ∧ va_P (dC, dI) vwCl [(a0, .inr (8, [.int a0_0, .int a0_1, .int a0_2, .int a0_3, .ref a0_4, .int a0_5, .int a0_6, .int a0_7, .int a0_8, .int a0_9, .int a0_10, .long a0_11, .int a0_12, .int a0_13, .int a0_14, .int a0_15, .int a0_16, .int a0_17, .ref a0_18, .ref a0_19, .ref a0_20, .ref a0_21, .ref a0_22, .ref a0_23, .ref a0_24, .ref a0_25, .ref a0_26, .ref a0_27, .ref a0_28, .ref a0_29, .ref a0_30, .ref a0_31, .ref a0_32, .ref a0_33, .ref a0_34, .ref a0_35, .long a0_36, .int a0_37, .ref a0_38, .ref a0_39, .int a0_40, .ref a0_41, .ref a0_42, .ref a0_43])), (a0_18, .inl (a0_18_c, 2, .inl a0_18_f)), (a0_19, .inl (a0_19_c, 2, .inl a0_19_f)), (a0_20, .inl (a0_20_c, 2, .inl a0_20_f)), (a0_21, .inl (a0_21_c, 2, .inl a0_21_f)), (a0_38, .inl (a0_38_c, 176, .inl a0_38_f))] U.heap ∧ va_K (dC, dI) vwCl [(a0_18_c, .int), (a0_19_c, .int), (a0_20_c, .int), (a0_21_c, .int), (a0_38_c, .int)] U ∧ va_D (fun _ => True) [(a0, .inr (8, [.int a0_0, .int a0_1, .int a0_2, .int a0_3, .ref a0_4, .int a0_5, .int a0_6, .int a0_7, .int a0_8, .int a0_9, .int a0_10, .long a0_11, .int a0_12, .int a0_13, .int a0_14, .int a0_15, .int a0_16, .int a0_17, .ref a0_18, .ref a0_19, .ref a0_20, .ref a0_21, .ref a0_22, .ref a0_23, .ref a0_24, .ref a0_25, .ref a0_26, .ref a0_27, .ref a0_28, .ref a0_29, .ref a0_30, .ref a0_31, .ref a0_32, .ref a0_33, .ref a0_34, .ref a0_35, .long a0_36, .int a0_37, .ref a0_38, .ref a0_39, .int a0_40, .ref a0_41, .ref a0_42, .ref a0_43])), (a0_18, .inl (a0_18_c, 2, .inl a0_18_f)), (a0_19, .inl (a0_19_c, 2, .inl a0_19_f)), (a0_20, .inl (a0_20_c, 2, .inl a0_20_f)), (a0_21, .inl (a0_21_c, 2, .inl a0_21_f)), (a0_38, .inl (a0_38_c, 176, .inl a0_38_f))] ∧ Ev g (va_A [(a0, .inr (8, [.int a0_0, .int a0_1, .int a0_2, .int a0_3, .ref a0_4, .int a0_5, .int a0_6, .int a0_7, .int a0_8, .int a0_9, .int a0_10, .long a0_11, .int a0_12, .int a0_13, .int a0_14, .int a0_15, .int a0_16, .int a0_17, .ref a0_18, .ref a0_19, .ref a0_20, .ref a0_21, .ref a0_22, .ref a0_23, .ref a0_24, .ref a0_25, .ref a0_26, .ref a0_27, .ref a0_28, .ref a0_29, .ref a0_30, .ref a0_31, .ref a0_32, .ref a0_33, .ref a0_34, .ref a0_35, .long a0_36, .int a0_37, .ref a0_38, .ref a0_39, .int a0_40, .ref a0_41, .ref a0_42, .ref a0_43])), (a0_18, .inl (a0_18_c, 2, .inl a0_18_f)), (a0_19, .inl (a0_19_c, 2, .inl a0_19_f)), (a0_20, .inl (a0_20_c, 2, .inl a0_20_f)), (a0_21, .inl (a0_21_c, 2, .inl a0_21_f)), (a0_38, .inl (a0_38_c, 176, .inl a0_38_f))] sz) U)) (va_Qi (fun (r : Int32) (u : Int32) => u = r) (fun (u : Int32) (t : State) => ∃ (za0_0 : Int32), va_P (dC, dI) vwCl [(a0, .inr (8, [.int za0_0, .int a0_1, .int a0_2, .int a0_3, .ref a0_4, .int a0_5, .int a0_6, .int a0_7, .int a0_8, .int a0_9, .int a0_10, .long a0_11, .int a0_12, .int a0_13, .int a0_14, .int a0_15, .int a0_16, .int a0_17, .ref a0_18, .ref a0_19, .ref a0_20, .ref a0_21, .ref a0_22, .ref a0_23, .ref a0_24, .ref a0_25, .ref a0_26, .ref a0_27, .ref a0_28, .ref a0_29, .ref a0_30, .ref a0_31, .ref a0_32, .ref a0_33, .ref a0_34, .ref a0_35, .long a0_36, .int a0_37, .ref a0_38, .ref a0_39, .int a0_40, .ref a0_41, .ref a0_42, .ref a0_43])), (a0_18, .inl (a0_18_c, 2, .inl a0_18_f)), (a0_19, .inl (a0_19_c, 2, .inl a0_19_f)), (a0_20, .inl (a0_20_c, 2, .inl a0_20_f)), (a0_21, .inl (a0_21_c, 2, .inl a0_21_f)), (a0_38, .inl (a0_38_c, 176, .inl a0_38_f))] t.heap ∧ va_K (dC, dI) vwCl [] t ∧ va_D (va_A [(a0, .inr (8, [.int a0_0, .int a0_1, .int a0_2, .int a0_3, .ref a0_4, .int a0_5, .int a0_6, .int a0_7, .int a0_8, .int a0_9, .int a0_10, .long a0_11, .int a0_12, .int a0_13, .int a0_14, .int a0_15, .int a0_16, .int a0_17, .ref a0_18, .ref a0_19, .ref a0_20, .ref a0_21, .ref a0_22, .ref a0_23, .ref a0_24, .ref a0_25, .ref a0_26, .ref a0_27, .ref a0_28, .ref a0_29, .ref a0_30, .ref a0_31, .ref a0_32, .ref a0_33, .ref a0_34, .ref a0_35, .long a0_36, .int a0_37, .ref a0_38, .ref a0_39, .int a0_40, .ref a0_41, .ref a0_42, .ref a0_43])), (a0_18, .inl (a0_18_c, 2, .inl a0_18_f)), (a0_19, .inl (a0_19_c, 2, .inl a0_19_f)), (a0_20, .inl (a0_20_c, 2, .inl a0_20_f)), (a0_21, .inl (a0_21_c, 2, .inl a0_21_f)), (a0_38, .inl (a0_38_c, 176, .inl a0_38_f))] sz) [(a0, .inr (8, [.int za0_0, .int a0_1, .int a0_2, .int a0_3, .ref a0_4, .int a0_5, .int a0_6, .int a0_7, .int a0_8, .int a0_9, .int a0_10, .long a0_11, .int a0_12, .int a0_13, .int a0_14, .int a0_15, .int a0_16, .int a0_17, .ref a0_18, .ref a0_19, .ref a0_20, .ref a0_21, .ref a0_22, .ref a0_23, .ref a0_24, .ref a0_25, .ref a0_26, .ref a0_27, .ref a0_28, .ref a0_29, .ref a0_30, .ref a0_31, .ref a0_32, .ref a0_33, .ref a0_34, .ref a0_35, .long a0_36, .int a0_37, .ref a0_38, .ref a0_39, .int a0_40, .ref a0_41, .ref a0_42, .ref a0_43])), (a0_18, .inl (a0_18_c, 2, .inl a0_18_f)), (a0_19, .inl (a0_19_c, 2, .inl a0_19_f)), (a0_20, .inl (a0_20_c, 2, .inl a0_20_f)), (a0_21, .inl (a0_21_c, 2, .inl a0_21_f)), (a0_38, .inl (a0_38_c, 176, .inl a0_38_f))]) (va_A [(a0, .inr (8, [.int a0_0, .int a0_1, .int a0_2, .int a0_3, .ref a0_4, .int a0_5, .int a0_6, .int a0_7, .int a0_8, .int a0_9, .int a0_10, .long a0_11, .int a0_12, .int a0_13, .int a0_14, .int a0_15, .int a0_16, .int a0_17, .ref a0_18, .ref a0_19, .ref a0_20, .ref a0_21, .ref a0_22, .ref a0_23, .ref a0_24, .ref a0_25, .ref a0_26, .ref a0_27, .ref a0_28, .ref a0_29, .ref a0_30, .ref a0_31, .ref a0_32, .ref a0_33, .ref a0_34, .ref a0_35, .long a0_36, .int a0_37, .ref a0_38, .ref a0_39, .int a0_40, .ref a0_41, .ref a0_42, .ref a0_43])), (a0_18, .inl (a0_18_c, 2, .inl a0_18_f)), (a0_19, .inl (a0_19_c, 2, .inl a0_19_f)), (a0_20, .inl (a0_20_c, 2, .inl a0_20_f)), (a0_21, .inl (a0_21_c, 2, .inl a0_21_f)), (a0_38, .inl (a0_38_c, 176, .inl a0_38_f))] sz)) 0 0 (va_A [(a0, .inr (8, [.int a0_0, .int a0_1, .int a0_2, .int a0_3, .ref a0_4, .int a0_5, .int a0_6, .int a0_7, .int a0_8, .int a0_9, .int a0_10, .long a0_11, .int a0_12, .int a0_13, .int a0_14, .int a0_15, .int a0_16, .int a0_17, .ref a0_18, .ref a0_19, .ref a0_20, .ref a0_21, .ref a0_22, .ref a0_23, .ref a0_24, .ref a0_25, .ref a0_26, .ref a0_27, .ref a0_28, .ref a0_29, .ref a0_30, .ref a0_31, .ref a0_32, .ref a0_33, .ref a0_34, .ref a0_35, .long a0_36, .int a0_37, .ref a0_38, .ref a0_39, .int a0_40, .ref a0_41, .ref a0_42, .ref a0_43])), (a0_18, .inl (a0_18_c, 2, .inl a0_18_f)), (a0_19, .inl (a0_19_c, 2, .inl a0_19_f)), (a0_20, .inl (a0_20_c, 2, .inl a0_20_f)), (a0_21, .inl (a0_21_c, 2, .inl a0_21_f)), (a0_38, .inl (a0_38_c, 176, .inl a0_38_f))] sz) := by
  refine Met.ofW (cc := cX9_count) (maxL := 2) (ret := (some .int)) (by decide) rfl ?_
  intro p e s m args below meth c s₁ B hml hv
  obtain ⟨rfl, hsz, hP, hK, hD0, hE⟩ := hv
  have hx := B.exec
  have hb := B.bytes
  have hr := B.returns
  have hts0 := atoms_spec (ws := (.code yX9_count cX9_count 2 (some .int) :: TBL)) B.pre
  have hts := fun (w : Cond) (h : w ∈ TBL) => hts0 w (List.mem_cons_of_mem _ h)
  have hown : s.vm.findClass RX9 = some m.cls := findClass_of_methodNamed B.named
  have hlocks := B.notSynchronized
  have hN := hE.1
  subst hsz
  have hD := hD0.self (sz := s.heap.size)
  generalize hAe : va_A [(a0, .inr (8, [.int a0_0, .int a0_1, .int a0_2, .int a0_3, .ref a0_4, .int a0_5, .int a0_6, .int a0_7, .int a0_8, .int a0_9, .int a0_10, .long a0_11, .int a0_12, .int a0_13, .int a0_14, .int a0_15, .int a0_16, .int a0_17, .ref a0_18, .ref a0_19, .ref a0_20, .ref a0_21, .ref a0_22, .ref a0_23, .ref a0_24, .ref a0_25, .ref a0_26, .ref a0_27, .ref a0_28, .ref a0_29, .ref a0_30, .ref a0_31, .ref a0_32, .ref a0_33, .ref a0_34, .ref a0_35, .long a0_36, .int a0_37, .ref a0_38, .ref a0_39, .int a0_40, .ref a0_41, .ref a0_42, .ref a0_43])), (a0_18, .inl (a0_18_c, 2, .inl a0_18_f)), (a0_19, .inl (a0_19_c, 2, .inl a0_19_f)), (a0_20, .inl (a0_20_c, 2, .inl a0_20_f)), (a0_21, .inl (a0_21_c, 2, .inl a0_21_f)), (a0_38, .inl (a0_38_c, 176, .inl a0_38_f))] s.heap.size = A at hD hE ⊢
  have hA : ∀ q : Nat, s.heap.size ≤ q → A q := fun q h => by rw [← hAe]; exact Or.inr h
  have hS : va_S A s.heap s.heap [] := va_S.rf
  replace hP : va_P (dC, dI) vwCl [(a0, .inr (8, [.int a0_0, .int a0_1, .int a0_2, .int a0_3, .ref a0_4, .int a0_5, .int a0_6, .int a0_7, .int a0_8, .int a0_9, .int a0_10, .long a0_11, .int a0_12, .int a0_13, .int a0_14, .int a0_15, .int a0_16, .int a0_17, .ref a0_18, .ref a0_19, .ref a0_20, .ref a0_21, .ref a0_22, .ref a0_23, .ref a0_24, .ref a0_25, .ref a0_26, .ref a0_27, .ref a0_28, .ref a0_29, .ref a0_30, .ref a0_31, .ref a0_32, .ref a0_33, .ref a0_34, .ref a0_35, .long a0_36, .int a0_37, .ref a0_38, .ref a0_39, .int a0_40, .ref a0_41, .ref a0_42, .ref a0_43])), (a0_18, .inl (a0_18_c, 2, .inl a0_18_f)), (a0_19, .inl (a0_19_c, 2, .inl a0_19_f)), (a0_20, .inl (a0_20_c, 2, .inl a0_20_f)), (a0_21, .inl (a0_21_c, 2, .inl a0_21_f)), (a0_38, .inl (a0_38_c, 176, .inl a0_38_f))] s.heap := hP
  have hl := lv_entry ([.ref a0, .int a1]) (n := 2) (Nat.le_of_ble_eq_true rfl)
  rw [lg_entry_eq]
  generalize (lg_sl ([.ref a0, .int a1]) ++ List.replicate (2 - (lg_sl ([.ref a0, .int a1])).length) Slot.unset).toArray = ls at hl ⊢
  have hl : lv_has ls 2 [(0, .ref a0), (1, .int a1)] := hl
  have b_a1 := i32b a1
  have b_a0_0 := i32b a0_0
  have b_a0_1 := i32b a0_1
  have b_a0_2 := i32b a0_2
  have b_a0_3 := i32b a0_3
  have b_a0_9 := i32b a0_9
  have b_a0_10 := i32b a0_10
  have b_a0_12 := i32b a0_12
  have b_a0_13 := i32b a0_13
  have b_a0_14 := i32b a0_14
  have b_a0_15 := i32b a0_15
  have b_a0_16 := i32b a0_16
  refine lv_aload_n hx hb dX9_count_0 rfl (lv_at hl 0 rfl) ?_
  refine lv_iconst (v := 0) hx hb dX9_count_1 (by decide) ?_
  refine va_put (D := (dC, dI)) (ci := 8) (v := .int 0) (ty := .int) (C := RX9) (T := TX9) (N := 44) hx hb hts inlX9 tyX9 tyX9_ok nmX9 hown hK hP hD hS 0 rgL6_3f800dd rfl 0 (by decide) (hts (.fieldLink RX9 85 "ClosedUntilModel" "thrown" "I") qw_408) (fun _ h9 => h9) rfl (by decide +kernel) rfl rfl (Nat.le_of_ble_eq_true rfl) dX9_count_2 (fun H locs hP9 hD9 hS9 => ?_)
  clear hP hD hS
  obtain ⟨hP, hD⟩ := rgS6_fcbeb75 (e := (a0, .inr (8, [.int 0, .int a0_1, .int a0_2, .int a0_3, .ref a0_4, .int a0_5, .int a0_6, .int a0_7, .int a0_8, .int a0_9, .int a0_10, .long a0_11, .int a0_12, .int a0_13, .int a0_14, .int a0_15, .int a0_16, .int a0_17, .ref a0_18, .ref a0_19, .ref a0_20, .ref a0_21, .ref a0_22, .ref a0_23, .ref a0_24, .ref a0_25, .ref a0_26, .ref a0_27, .ref a0_28, .ref a0_29, .ref a0_30, .ref a0_31, .ref a0_32, .ref a0_33, .ref a0_34, .ref a0_35, .long a0_36, .int a0_37, .ref a0_38, .ref a0_39, .int a0_40, .ref a0_41, .ref a0_42, .ref a0_43]))) hP9 hD9 rfl
  have hS := hS9; clear hP9 hD9 hS9
  refine lv_iload_n hx hb dX9_count_5 rfl (lv_at hl 1 rfl) ?_
  rcases (show a1.toInt = 0 ∨ a1.toInt = 1 ∨ a1.toInt = 2 ∨ a1.toInt = 3 ∨ a1.toInt = 4 ∨ a1.toInt = 5 ∨ a1.toInt = 6 ∨ a1.toInt = 7 ∨ (a1.toInt < 0 ∨ 7 < a1.toInt) by omega) with hq1 | hq1 | hq1 | hq1 | hq1 | hq1 | hq1 | hq1 | hq1
  · refine lv_tableIn (off := 46) (tgt := 52) hx hb dX9_count_6 (by omega) (by omega) (by rw [hq1]; rfl) (by decide) ?_
    refine lv_aload_n hx hb dX9_count_52 rfl (lv_at hl 0 rfl) ?_
    refine va_get (D := (dC, dI)) (ci := 8) (v := .ref a0_20) (C := RX9) (T := TX9) (N := 44) hx hb hts inlX9 hown hK hP 0 rgL6_3f800dd rfl 20 (by decide) (hts (.fieldLink RX9 20 "ClosedUntilModel" "pieces" "[I") qw_439) (fun _ h9 => h9) rfl dX9_count_53 ?_
    refine lv_iconst (v := 0) hx hb dX9_count_56 (by decide) ?_
    refine va_iald hx hb hK hP 3 2 rgL6_a3d2007 rgT5_57d5a88 (vin0 (by decide)) dX9_count_57 ?_
    refine lv_topi (fun x2 e_x2 => ?_)
    have q_x2 : x2.toInt = (a0_20_f 0).toInt := congrArg Int32.toInt e_x2
    have b_x2 : 0 ≤ x2.toInt ∧ x2.toInt ≤ 24 := vr_at (lo := 0) (hi := 24) (f := a0_20_f) h_a0_20_f e_x2
    have qc0 : (0 : Int32).toInt = 0 := by decide
    refine W.widen (k := 0) (n := 0) (Nat.le_of_ble_eq_true rfl) (Nat.le_of_ble_eq_true rfl) ?_
    have hP9 := hP
    have hD9 := hD
    have hK9 := (rgK5_6e78cbf hK)
    exact W.iret (v := x2) hx hb hr (fun t ht hW => ⟨⟨x2, x2, rfl, rfl, 0, atB ht hP9, va_K.moved hW.alike hK9, hD9⟩, hS.F ht⟩) hS.2.2 dX9_count_58
  · refine lv_tableIn (off := 53) (tgt := 59) hx hb dX9_count_6 (by omega) (by omega) (by rw [hq1]; rfl) (by decide) ?_
    refine lv_aload_n hx hb dX9_count_59 rfl (lv_at hl 0 rfl) ?_
    refine va_get (D := (dC, dI)) (ci := 8) (v := .ref a0_18) (C := RX9) (T := TX9) (N := 44) hx hb hts inlX9 hown hK hP 0 rgL6_3f800dd rfl 18 (by decide) (hts (.fieldLink RX9 13 "ClosedUntilModel" "people" "[I") qw_434) (fun _ h9 => h9) rfl dX9_count_60 ?_
    refine lv_iconst (v := 0) hx hb dX9_count_63 (by decide) ?_
    refine va_iald hx hb hK hP 1 0 rgL6_a93a3d5 rgT5_dea851c (vin0 (by decide)) dX9_count_64 ?_
    refine lv_topi (fun x3 e_x3 => ?_)
    have q_x3 : x3.toInt = (a0_18_f 0).toInt := congrArg Int32.toInt e_x3
    have b_x3 : 0 ≤ x3.toInt ∧ x3.toInt ≤ 8 := vr_at (lo := 0) (hi := 8) (f := a0_18_f) h_a0_18_f e_x3
    have qc0 : (0 : Int32).toInt = 0 := by decide
    refine W.widen (k := 0) (n := 0) (Nat.le_of_ble_eq_true rfl) (Nat.le_of_ble_eq_true rfl) ?_
    have hP9 := hP
    have hD9 := hD
    have hK9 := (rgK5_6e78cbf hK)
    exact W.iret (v := x3) hx hb hr (fun t ht hW => ⟨⟨x3, x3, rfl, rfl, 0, atB ht hP9, va_K.moved hW.alike hK9, hD9⟩, hS.F ht⟩) hS.2.2 dX9_count_65
  · refine lv_tableIn (off := 60) (tgt := 66) hx hb dX9_count_6 (by omega) (by omega) (by rw [hq1]; rfl) (by decide) ?_
    refine lv_aload_n hx hb dX9_count_66 rfl (lv_at hl 0 rfl) ?_
    refine va_get (D := (dC, dI)) (ci := 8) (v := .ref a0_19) (C := RX9) (T := TX9) (N := 44) hx hb hts inlX9 hown hK hP 0 rgL6_3f800dd rfl 19 (by decide) (hts (.fieldLink RX9 17 "ClosedUntilModel" "deposits" "[I") qw_437) (fun _ h9 => h9) rfl dX9_count_67 ?_
    refine lv_iconst (v := 0) hx hb dX9_count_70 (by decide) ?_
    refine va_iald hx hb hK hP 2 1 rgL6_5db1281 rgT5_06bc212 (vin0 (by decide)) dX9_count_71 ?_
    refine lv_topi (fun x4 e_x4 => ?_)
    have q_x4 : x4.toInt = (a0_19_f 0).toInt := congrArg Int32.toInt e_x4
    have b_x4 : 0 ≤ x4.toInt ∧ x4.toInt ≤ 4 := vr_at (lo := 0) (hi := 4) (f := a0_19_f) h_a0_19_f e_x4
    have qc0 : (0 : Int32).toInt = 0 := by decide
    refine W.widen (k := 0) (n := 0) (Nat.le_of_ble_eq_true rfl) (Nat.le_of_ble_eq_true rfl) ?_
    have hP9 := hP
    have hD9 := hD
    have hK9 := (rgK5_6e78cbf hK)
    exact W.iret (v := x4) hx hb hr (fun t ht hW => ⟨⟨x4, x4, rfl, rfl, 0, atB ht hP9, va_K.moved hW.alike hK9, hD9⟩, hS.F ht⟩) hS.2.2 dX9_count_72
  · refine lv_tableIn (off := 67) (tgt := 73) hx hb dX9_count_6 (by omega) (by omega) (by rw [hq1]; rfl) (by decide) ?_
    refine lv_aload_n hx hb dX9_count_73 rfl (lv_at hl 0 rfl) ?_
    refine va_get (D := (dC, dI)) (ci := 8) (v := .ref a0_21) (C := RX9) (T := TX9) (N := 44) hx hb hts inlX9 hown hK hP 0 rgL6_3f800dd rfl 21 (by decide) (hts (.fieldLink RX9 23 "ClosedUntilModel" "closures" "[I") qw_501) (fun _ h9 => h9) rfl dX9_count_74 ?_
    refine lv_iconst (v := 0) hx hb dX9_count_77 (by decide) ?_
    refine va_iald hx hb hK hP 4 3 rgL6_fb60be2 rgT5_5f7a9a6 (vin0 (by decide)) dX9_count_78 ?_
    refine lv_topi (fun x5 e_x5 => ?_)
    have q_x5 : x5.toInt = (a0_21_f 0).toInt := congrArg Int32.toInt e_x5
    have b_x5 : 0 ≤ x5.toInt ∧ x5.toInt ≤ 12 := vr_at (lo := 0) (hi := 12) (f := a0_21_f) h_a0_21_f e_x5
    have qc0 : (0 : Int32).toInt = 0 := by decide
    refine W.widen (k := 0) (n := 0) (Nat.le_of_ble_eq_true rfl) (Nat.le_of_ble_eq_true rfl) ?_
    have hP9 := hP
    have hD9 := hD
    have hK9 := (rgK5_6e78cbf hK)
    exact W.iret (v := x5) hx hb hr (fun t ht hW => ⟨⟨x5, x5, rfl, rfl, 0, atB ht hP9, va_K.moved hW.alike hK9, hD9⟩, hS.F ht⟩) hS.2.2 dX9_count_79
  · refine lv_tableIn (off := 74) (tgt := 80) hx hb dX9_count_6 (by omega) (by omega) (by rw [hq1]; rfl) (by decide) ?_
    refine lv_aload_n hx hb dX9_count_80 rfl (lv_at hl 0 rfl) ?_
    have qc0 : (0 : Int32).toInt = 0 := by decide
    have hPc := (rgP6_2117603 hP)
    have hKc := (rgK5_99abf79 hK)
    refine vp_callSi ((va_runV (As := []) (rest := []) ⟨hx, hb, hml, hown, hts⟩ (k_X9_reviews l dC dI g (a0) (0) (a0_1) (a0_2) (a0_3) (a0_4) (a0_5) (a0_6) (a0_7) (a0_8) (a0_9) (a0_10) (a0_11) (a0_12) (a0_13) (a0_14) (a0_15) (a0_16) (a0_17) (a0_18) (a0_19) (a0_20) (a0_21) (a0_22) (a0_23) (a0_24) (a0_25) (a0_26) (a0_27) (a0_28) (a0_29) (a0_30) (a0_31) (a0_32) (a0_33) (a0_34) (a0_35) (a0_36) (a0_37) (a0_38) (a0_39) (a0_40) (a0_41) (a0_42) (a0_43) (a0_21_c) (a0_21_f) (a0_38_c) (a0_38_f) (by omega) (by omega) (by omega) (by omega) (by omega) (by omega) (by omega) h_a0_21_f) (cwV 0 hts (gwV qw_656 qw_657 qw_658 qw_386 qw_655) rfl rfl rfl (by decide +kernel) ⟨Nat.le_of_ble_eq_true rfl, Nat.le_of_ble_eq_true rfl⟩) ⟨fun a U g9 mk q => ⟨q.1, q.2.1, va_K.moved (u := U) (U := U.calling g9 mk a) (Vm.Alike.refl U.vm) q.2.2.1, Ev.bl q.2.2.2⟩, va_recv hK hP (ci := 8) (q0 := 0) rfl rgL6_3f800dd, fun U hU hW => ⟨rfl, atB hU hPc, va_K.moved hW.alike hKc, hE.go hS (fun _ h => h.elim) hU hW⟩⟩ rfl rfl hl.1 rfl (lv_room (Nat.le_of_ble_eq_true rfl)) dX9_count_81 ⟨Nat.le_of_ble_eq_true rfl, Nat.le_of_ble_eq_true rfl⟩)).run (fun r6 h_r6 => ?_)
    have b_r6 := i32b r6
    have qc0 : (0 : Int32).toInt = 0 := by decide
    refine W.widen (k := 0) (n := 0) (Nat.le_of_ble_eq_true rfl) (Nat.le_of_ble_eq_true rfl) ?_
    have hP9 := hP
    have hD9 := hD
    have hK9 := (rgK5_6e78cbf hK)
    exact W.iret (v := r6) hx hb hr (fun t ht hW => ⟨⟨r6, r6, rfl, rfl, 0, atB ht hP9, va_K.moved hW.alike hK9, hD9⟩, hS.F ht⟩) hS.2.2 dX9_count_84
  · refine lv_tableIn (off := 79) (tgt := 85) hx hb dX9_count_6 (by omega) (by omega) (by rw [hq1]; rfl) (by decide) ?_
    refine lv_aload_n hx hb dX9_count_85 rfl (lv_at hl 0 rfl) ?_
    have qc0 : (0 : Int32).toInt = 0 := by decide
    have hPc := (rgP6_2117603 hP)
    have hKc := (rgK5_99abf79 hK)
    refine vp_callSi ((va_runV (As := []) (rest := []) ⟨hx, hb, hml, hown, hts⟩ (k_X9_lifted l dC dI g (a0) (0) (a0_1) (a0_2) (a0_3) (a0_4) (a0_5) (a0_6) (a0_7) (a0_8) (a0_9) (a0_10) (a0_11) (a0_12) (a0_13) (a0_14) (a0_15) (a0_16) (a0_17) (a0_18) (a0_19) (a0_20) (a0_21) (a0_22) (a0_23) (a0_24) (a0_25) (a0_26) (a0_27) (a0_28) (a0_29) (a0_30) (a0_31) (a0_32) (a0_33) (a0_34) (a0_35) (a0_36) (a0_37) (a0_38) (a0_39) (a0_40) (a0_41) (a0_42) (a0_43) (a0_21_c) (a0_21_f) (a0_38_c) (a0_38_f) (by omega) (by omega) (by omega) (by omega) (by omega) (by omega) (by omega) h_a0_21_f) (cwV 0 hts (gwV qw_660 qw_661 qw_662 qw_386 qw_659) rfl rfl rfl (by decide +kernel) ⟨Nat.le_of_ble_eq_true rfl, Nat.le_of_ble_eq_true rfl⟩) ⟨fun a U g9 mk q => ⟨q.1, q.2.1, va_K.moved (u := U) (U := U.calling g9 mk a) (Vm.Alike.refl U.vm) q.2.2.1, Ev.bl q.2.2.2⟩, va_recv hK hP (ci := 8) (q0 := 0) rfl rgL6_3f800dd, fun U hU hW => ⟨rfl, atB hU hPc, va_K.moved hW.alike hKc, hE.go hS (fun _ h => h.elim) hU hW⟩⟩ rfl rfl hl.1 rfl (lv_room (Nat.le_of_ble_eq_true rfl)) dX9_count_86 ⟨Nat.le_of_ble_eq_true rfl, Nat.le_of_ble_eq_true rfl⟩)).run (fun r7 h_r7 => ?_)
    have b_r7 := i32b r7
    have qc0 : (0 : Int32).toInt = 0 := by decide
    refine W.widen (k := 0) (n := 0) (Nat.le_of_ble_eq_true rfl) (Nat.le_of_ble_eq_true rfl) ?_
    have hP9 := hP
    have hD9 := hD
    have hK9 := (rgK5_6e78cbf hK)
    exact W.iret (v := r7) hx hb hr (fun t ht hW => ⟨⟨r7, r7, rfl, rfl, 0, atB ht hP9, va_K.moved hW.alike hK9, hD9⟩, hS.F ht⟩) hS.2.2 dX9_count_89
  · refine lv_tableIn (off := 84) (tgt := 90) hx hb dX9_count_6 (by omega) (by omega) (by rw [hq1]; rfl) (by decide) ?_
    refine lv_aload_n hx hb dX9_count_90 rfl (lv_at hl 0 rfl) ?_
    refine va_get (D := (dC, dI)) (ci := 8) (v := .int a0_40) (C := RX9) (T := TX9) (N := 44) hx hb hts inlX9 hown hK hP 0 rgL6_3f800dd rfl 40 (by decide) (hts (.fieldLink RX9 310 "ClosedUntilModel" "undos" "I") qw_552) (fun _ h9 => h9) rfl dX9_count_91 ?_
    have qc0 : (0 : Int32).toInt = 0 := by decide
    refine W.widen (k := 0) (n := 0) (Nat.le_of_ble_eq_true rfl) (Nat.le_of_ble_eq_true rfl) ?_
    have hP9 := hP
    have hD9 := hD
    have hK9 := (rgK5_6e78cbf hK)
    exact W.iret (v := a0_40) hx hb hr (fun t ht hW => ⟨⟨a0_40, a0_40, rfl, rfl, 0, atB ht hP9, va_K.moved hW.alike hK9, hD9⟩, hS.F ht⟩) hS.2.2 dX9_count_94
  · refine lv_tableIn (off := 89) (tgt := 95) hx hb dX9_count_6 (by omega) (by omega) (by rw [hq1]; rfl) (by decide) ?_
    refine lv_aload_n hx hb dX9_count_95 rfl (lv_at hl 0 rfl) ?_
    refine va_get (D := (dC, dI)) (ci := 8) (v := .int a0_5) (C := RX9) (T := TX9) (N := 44) hx hb hts inlX9 hown hK hP 0 rgL6_3f800dd rfl 5 (by decide) (hts (.fieldLink RX9 142 "ClosedUntilModel" "taped" "I") qw_407) (fun _ h9 => h9) rfl dX9_count_96 ?_
    have qc0 : (0 : Int32).toInt = 0 := by decide
    refine W.widen (k := 0) (n := 0) (Nat.le_of_ble_eq_true rfl) (Nat.le_of_ble_eq_true rfl) ?_
    have hP9 := hP
    have hD9 := hD
    have hK9 := (rgK5_6e78cbf hK)
    exact W.iret (v := a0_5) hx hb hr (fun t ht hW => ⟨⟨a0_5, a0_5, rfl, rfl, 0, atB ht hP9, va_K.moved hW.alike hK9, hD9⟩, hS.F ht⟩) hS.2.2 dX9_count_99
  · refine lv_tableOut (tgt := 100) hx hb dX9_count_6 hq1 (by decide) ?_
    refine lv_iconst (v := (-1)) hx hb dX9_count_100 (by decide) ?_
    have qcm1 : ((-1) : Int32).toInt = (-1) := by decide
    have qc0 : (0 : Int32).toInt = 0 := by decide
    refine W.widen (k := 0) (n := 0) (Nat.le_of_ble_eq_true rfl) (Nat.le_of_ble_eq_true rfl) ?_
    have hP9 := hP
    have hD9 := hD
    have hK9 := (rgK5_6e78cbf hK)
    exact W.iret (v := (-1)) hx hb hr (fun t ht hW => ⟨⟨(-1), (-1), rfl, rfl, 0, atB ht hP9, va_K.moved hW.alike hK9, hD9⟩, hS.F ht⟩) hS.2.2 dX9_count_101
