theorem dX1_clear_0 : decode cX1_clear 0 = .ok (.aload_n 0, 1) := by decide +kernel
theorem dX1_clear_1 : decode cX1_clear 1 = .ok (.iconst 0, 1) := by decide +kernel
theorem dX1_clear_2 : decode cX1_clear 2 = .ok (.putfield 45, 3) := by decide +kernel
theorem dX1_clear_5 : decode cX1_clear 5 = .ok (.aload_n 0, 1) := by decide +kernel
theorem dX1_clear_6 : decode cX1_clear 6 = .ok (.iconst 0, 1) := by decide +kernel
theorem dX1_clear_7 : decode cX1_clear 7 = .ok (.putfield 49, 3) := by decide +kernel
theorem dX1_clear_10 : decode cX1_clear 10 = .ok (.aload_n 0, 1) := by decide +kernel
theorem dX1_clear_11 : decode cX1_clear 11 = .ok (.iconst 0, 1) := by decide +kernel
theorem dX1_clear_12 : decode cX1_clear 12 = .ok (.putfield 52, 3) := by decide +kernel
theorem dX1_clear_15 : decode cX1_clear 15 = .ok (.aload_n 0, 1) := by decide +kernel
theorem dX1_clear_16 : decode cX1_clear 16 = .ok (.iconst 0, 1) := by decide +kernel
theorem dX1_clear_17 : decode cX1_clear 17 = .ok (.putfield 55, 3) := by decide +kernel
theorem dX1_clear_20 : decode cX1_clear 20 = .ok (.return_, 1) := by decide +kernel
theorem dX2_forgetAll_0 : decode cX2_forgetAll 0 = .ok (.aload_n 0, 1) := by decide +kernel
theorem dX2_forgetAll_1 : decode cX2_forgetAll 1 = .ok (.iconst 0, 1) := by decide +kernel
theorem dX2_forgetAll_2 : decode cX2_forgetAll 2 = .ok (.putfield 21, 3) := by decide +kernel
theorem dX2_forgetAll_5 : decode cX2_forgetAll 5 = .ok (.return_, 1) := by decide +kernel
theorem dX5_read_0 : decode cX5_read 0 = .ok (.aload_n 3, 1) := by decide +kernel
theorem dX5_read_1 : decode cX5_read 1 = .ok (.invokevirtual 29, 3) := by decide +kernel
theorem dX5_read_4 : decode cX5_read 4 = .ok (.aload 4, 2) := by decide +kernel
theorem dX5_read_6 : decode cX5_read 6 = .ok (.invokevirtual 34, 3) := by decide +kernel
theorem dX5_read_9 : decode cX5_read 9 = .ok (.aload_n 0, 1) := by decide +kernel
theorem dX5_read_10 : decode cX5_read 10 = .ok (.iconst 0, 1) := by decide +kernel
theorem dX5_read_11 : decode cX5_read 11 = .ok (.putfield 37, 3) := by decide +kernel
theorem dX5_read_14 : decode cX5_read 14 = .ok (.aload_n 0, 1) := by decide +kernel
theorem dX5_read_15 : decode cX5_read 15 = .ok (.iconst (-1), 1) := by decide +kernel
theorem dX5_read_16 : decode cX5_read 16 = .ok (.putfield 41, 3) := by decide +kernel
theorem dX5_read_19 : decode cX5_read 19 = .ok (.aload_n 0, 1) := by decide +kernel
theorem dX5_read_20 : decode cX5_read 20 = .ok (.getfield 12, 3) := by decide +kernel
theorem dX5_read_23 : decode cX5_read 23 = .ok (.aload_n 1, 1) := by decide +kernel
theorem dX5_read_24 : decode cX5_read 24 = .ok (.iload_n 2, 1) := by decide +kernel
theorem dX5_read_25 : decode cX5_read 25 = .ok (.invokevirtual 44, 3) := by decide +kernel
theorem dX5_read_28 : decode cX5_read 28 = .ok (.iconst 0, 1) := by decide +kernel
theorem dX5_read_29 : decode cX5_read 29 = .ok (.istore 5, 2) := by decide +kernel
theorem dX5_read_31 : decode cX5_read 31 = .ok (.iload 5, 2) := by decide +kernel
theorem dX5_read_33 : decode cX5_read 33 = .ok (.sipush 1000, 3) := by decide +kernel
theorem dX5_read_36 : decode cX5_read 36 = .ok (.if_icmp .ge 134, 3) := by decide +kernel
theorem dX5_read_39 : decode cX5_read 39 = .ok (.aload_n 0, 1) := by decide +kernel
theorem dX5_read_40 : decode cX5_read 40 = .ok (.getfield 41, 3) := by decide +kernel
theorem dX5_read_43 : decode cX5_read 43 = .ok (.iconst (-1), 1) := by decide +kernel
theorem dX5_read_44 : decode cX5_read 44 = .ok (.if_icmp .ne 126, 3) := by decide +kernel
theorem dX5_read_47 : decode cX5_read 47 = .ok (.aload_n 0, 1) := by decide +kernel
theorem dX5_read_48 : decode cX5_read 48 = .ok (.getfield 12, 3) := by decide +kernel
theorem dX5_read_51 : decode cX5_read 51 = .ok (.getfield 48, 3) := by decide +kernel
theorem dX5_read_54 : decode cX5_read 54 = .ok (.bipush 15, 2) := by decide +kernel
theorem dX5_read_56 : decode cX5_read 56 = .ok (.if_icmp .eq 114, 3) := by decide +kernel
theorem dX5_read_59 : decode cX5_read 59 = .ok (.aload_n 0, 1) := by decide +kernel
theorem dX5_read_60 : decode cX5_read 60 = .ok (.getfield 12, 3) := by decide +kernel
theorem dX5_read_63 : decode cX5_read 63 = .ok (.getfield 48, 3) := by decide +kernel
theorem dX5_read_66 : decode cX5_read 66 = .ok (.tableswitch 86 0 8 #[50, 86, 86, 60, 68, 86, 86, 86, 78], 50) := by decide +kernel
theorem dX5_read_116 : decode cX5_read 116 = .ok (.aload_n 0, 1) := by decide +kernel
theorem dX5_read_117 : decode cX5_read 117 = .ok (.aload_n 3, 1) := by decide +kernel
theorem dX5_read_118 : decode cX5_read 118 = .ok (.aload 4, 2) := by decide +kernel
theorem dX5_read_120 : decode cX5_read 120 = .ok (.invokevirtual 51, 3) := by decide +kernel
theorem dX5_read_123 : decode cX5_read 123 = .ok (.goto 41, 3) := by decide +kernel
theorem dX5_read_126 : decode cX5_read 126 = .ok (.aload_n 0, 1) := by decide +kernel
theorem dX5_read_127 : decode cX5_read 127 = .ok (.aload_n 3, 1) := by decide +kernel
theorem dX5_read_128 : decode cX5_read 128 = .ok (.invokevirtual 55, 3) := by decide +kernel
theorem dX5_read_131 : decode cX5_read 131 = .ok (.goto 33, 3) := by decide +kernel
theorem dX5_read_134 : decode cX5_read 134 = .ok (.aload_n 0, 1) := by decide +kernel
theorem dX5_read_135 : decode cX5_read 135 = .ok (.aload_n 3, 1) := by decide +kernel
theorem dX5_read_136 : decode cX5_read 136 = .ok (.aload 4, 2) := by decide +kernel
theorem dX5_read_138 : decode cX5_read 138 = .ok (.invokevirtual 59, 3) := by decide +kernel
theorem dX5_read_141 : decode cX5_read 141 = .ok (.goto 23, 3) := by decide +kernel
theorem dX5_read_144 : decode cX5_read 144 = .ok (.aload_n 0, 1) := by decide +kernel
theorem dX5_read_145 : decode cX5_read 145 = .ok (.aload_n 3, 1) := by decide +kernel
theorem dX5_read_146 : decode cX5_read 146 = .ok (.invokevirtual 62, 3) := by decide +kernel
theorem dX5_read_149 : decode cX5_read 149 = .ok (.goto 15, 3) := by decide +kernel
theorem dX5_read_152 : decode cX5_read 152 = .ok (.aload_n 0, 1) := by decide +kernel
theorem dX5_read_153 : decode cX5_read 153 = .ok (.iconst 1, 1) := by decide +kernel
theorem dX5_read_154 : decode cX5_read 154 = .ok (.aload_n 0, 1) := by decide +kernel
theorem dX5_read_155 : decode cX5_read 155 = .ok (.getfield 12, 3) := by decide +kernel
theorem dX5_read_158 : decode cX5_read 158 = .ok (.getfield 65, 3) := by decide +kernel
theorem dX5_read_161 : decode cX5_read 161 = .ok (.invokevirtual 68, 3) := by decide +kernel
theorem dX5_read_164 : decode cX5_read 164 = .ok (.iinc 5 1, 3) := by decide +kernel
theorem dX5_read_167 : decode cX5_read 167 = .ok (.goto (-136), 3) := by decide +kernel
theorem dX5_read_170 : decode cX5_read 170 = .ok (.aload_n 0, 1) := by decide +kernel
theorem dX5_read_171 : decode cX5_read 171 = .ok (.getfield 41, 3) := by decide +kernel
theorem dX5_read_174 : decode cX5_read 174 = .ok (.iconst (-1), 1) := by decide +kernel
theorem dX5_read_175 : decode cX5_read 175 = .ok (.if_icmp .ne 8, 3) := by decide +kernel
theorem dX5_read_178 : decode cX5_read 178 = .ok (.iload 5, 2) := by decide +kernel
theorem dX5_read_180 : decode cX5_read 180 = .ok (.goto 10, 3) := by decide +kernel
theorem dX5_read_183 : decode cX5_read 183 = .ok (.bipush (-2), 2) := by decide +kernel
theorem dX5_read_185 : decode cX5_read 185 = .ok (.aload_n 0, 1) := by decide +kernel
theorem dX5_read_186 : decode cX5_read 186 = .ok (.getfield 41, 3) := by decide +kernel
theorem dX5_read_189 : decode cX5_read 189 = .ok (.isub, 1) := by decide +kernel
theorem dX5_read_190 : decode cX5_read 190 = .ok (.ireturn, 1) := by decide +kernel
theorem dX7_start_0 : decode cX7_start 0 = .ok (.aload_n 0, 1) := by decide +kernel
theorem dX7_start_1 : decode cX7_start 1 = .ok (.aload_n 1, 1) := by decide +kernel
theorem dX7_start_2 : decode cX7_start 2 = .ok (.putfield 13, 3) := by decide +kernel
theorem dX7_start_5 : decode cX7_start 5 = .ok (.aload_n 0, 1) := by decide +kernel
theorem dX7_start_6 : decode cX7_start 6 = .ok (.iload_n 2, 1) := by decide +kernel
theorem dX7_start_7 : decode cX7_start 7 = .ok (.aload_n 1, 1) := by decide +kernel
theorem dX7_start_8 : decode cX7_start 8 = .ok (.arraylength, 1) := by decide +kernel
theorem dX7_start_9 : decode cX7_start 9 = .ok (.invokestatic 33, 3) := by decide +kernel
theorem dX7_start_12 : decode cX7_start 12 = .ok (.putfield 39, 3) := by decide +kernel
theorem dX7_start_15 : decode cX7_start 15 = .ok (.aload_n 0, 1) := by decide +kernel
theorem dX7_start_16 : decode cX7_start 16 = .ok (.iconst 0, 1) := by decide +kernel
theorem dX7_start_17 : decode cX7_start 17 = .ok (.putfield 43, 3) := by decide +kernel
theorem dX7_start_20 : decode cX7_start 20 = .ok (.aload_n 0, 1) := by decide +kernel
theorem dX7_start_21 : decode cX7_start 21 = .ok (.invokevirtual 46, 3) := by decide +kernel
theorem dX7_start_24 : decode cX7_start 24 = .ok (.return_, 1) := by decide +kernel
theorem dX7_advance_0 : decode cX7_advance 0 = .ok (.aload_n 0, 1) := by decide +kernel
theorem dX7_advance_1 : decode cX7_advance 1 = .ok (.getfield 43, 3) := by decide +kernel
theorem dX7_advance_4 : decode cX7_advance 4 = .ok (.aload_n 0, 1) := by decide +kernel
theorem dX7_advance_5 : decode cX7_advance 5 = .ok (.getfield 39, 3) := by decide +kernel
theorem dX7_advance_8 : decode cX7_advance 8 = .ok (.if_icmp .ge 44, 3) := by decide +kernel
theorem dX7_advance_11 : decode cX7_advance 11 = .ok (.aload_n 0, 1) := by decide +kernel
theorem dX7_advance_12 : decode cX7_advance 12 = .ok (.getfield 13, 3) := by decide +kernel
theorem dX7_advance_15 : decode cX7_advance 15 = .ok (.aload_n 0, 1) := by decide +kernel
theorem dX7_advance_16 : decode cX7_advance 16 = .ok (.getfield 43, 3) := by decide +kernel
theorem dX7_advance_19 : decode cX7_advance 19 = .ok (.baload, 1) := by decide +kernel
theorem dX7_advance_20 : decode cX7_advance 20 = .ok (.bipush 32, 2) := by decide +kernel
theorem dX7_advance_22 : decode cX7_advance 22 = .ok (.if_icmp .eq 17, 3) := by decide +kernel
theorem dX7_advance_25 : decode cX7_advance 25 = .ok (.aload_n 0, 1) := by decide +kernel
theorem dX7_advance_26 : decode cX7_advance 26 = .ok (.getfield 13, 3) := by decide +kernel
theorem dX7_advance_29 : decode cX7_advance 29 = .ok (.aload_n 0, 1) := by decide +kernel
theorem dX7_advance_30 : decode cX7_advance 30 = .ok (.getfield 43, 3) := by decide +kernel
theorem dX7_advance_33 : decode cX7_advance 33 = .ok (.baload, 1) := by decide +kernel
theorem dX7_advance_34 : decode cX7_advance 34 = .ok (.bipush 10, 2) := by decide +kernel
theorem dX7_advance_36 : decode cX7_advance 36 = .ok (.if_icmp .ne 16, 3) := by decide +kernel
theorem dX7_advance_39 : decode cX7_advance 39 = .ok (.aload_n 0, 1) := by decide +kernel
theorem dX7_advance_40 : decode cX7_advance 40 = .ok (.dup, 1) := by decide +kernel
theorem dX7_advance_41 : decode cX7_advance 41 = .ok (.getfield 43, 3) := by decide +kernel
theorem dX7_advance_44 : decode cX7_advance 44 = .ok (.iconst 1, 1) := by decide +kernel
theorem dX7_advance_45 : decode cX7_advance 45 = .ok (.iadd, 1) := by decide +kernel
theorem dX7_advance_46 : decode cX7_advance 46 = .ok (.putfield 43, 3) := by decide +kernel
theorem dX7_advance_49 : decode cX7_advance 49 = .ok (.goto (-49), 3) := by decide +kernel
theorem dX7_advance_52 : decode cX7_advance 52 = .ok (.aload_n 0, 1) := by decide +kernel
theorem dX7_advance_53 : decode cX7_advance 53 = .ok (.aload_n 0, 1) := by decide +kernel
theorem dX7_advance_54 : decode cX7_advance 54 = .ok (.getfield 43, 3) := by decide +kernel
theorem dX7_advance_57 : decode cX7_advance 57 = .ok (.putfield 49, 3) := by decide +kernel
theorem dX7_advance_60 : decode cX7_advance 60 = .ok (.aload_n 0, 1) := by decide +kernel
theorem dX7_advance_61 : decode cX7_advance 61 = .ok (.getfield 43, 3) := by decide +kernel
theorem dX7_advance_64 : decode cX7_advance 64 = .ok (.aload_n 0, 1) := by decide +kernel
theorem dX7_advance_65 : decode cX7_advance 65 = .ok (.getfield 39, 3) := by decide +kernel
theorem dX7_advance_68 : decode cX7_advance 68 = .ok (.if_icmp .lt 12, 3) := by decide +kernel
theorem dX7_advance_71 : decode cX7_advance 71 = .ok (.aload_n 0, 1) := by decide +kernel
theorem dX7_advance_72 : decode cX7_advance 72 = .ok (.bipush 15, 2) := by decide +kernel
theorem dX7_advance_74 : decode cX7_advance 74 = .ok (.putfield 52, 3) := by decide +kernel
theorem dX7_advance_77 : decode cX7_advance 77 = .ok (.goto 82, 3) := by decide +kernel
theorem dX7_advance_80 : decode cX7_advance 80 = .ok (.aload_n 0, 1) := by decide +kernel
theorem dX7_advance_81 : decode cX7_advance 81 = .ok (.getfield 13, 3) := by decide +kernel
theorem dX7_advance_84 : decode cX7_advance 84 = .ok (.aload_n 0, 1) := by decide +kernel
theorem dX7_advance_85 : decode cX7_advance 85 = .ok (.getfield 43, 3) := by decide +kernel
theorem dX7_advance_88 : decode cX7_advance 88 = .ok (.baload, 1) := by decide +kernel
theorem dX7_advance_89 : decode cX7_advance 89 = .ok (.invokestatic 55, 3) := by decide +kernel
theorem dX7_advance_92 : decode cX7_advance 92 = .ok (.ifCond .eq 10, 3) := by decide +kernel
theorem dX7_advance_95 : decode cX7_advance 95 = .ok (.aload_n 0, 1) := by decide +kernel
theorem dX7_advance_96 : decode cX7_advance 96 = .ok (.invokevirtual 59, 3) := by decide +kernel
theorem dX7_advance_99 : decode cX7_advance 99 = .ok (.goto 60, 3) := by decide +kernel
theorem dX7_advance_102 : decode cX7_advance 102 = .ok (.aload_n 0, 1) := by decide +kernel
theorem dX7_advance_103 : decode cX7_advance 103 = .ok (.getfield 13, 3) := by decide +kernel
theorem dX7_advance_106 : decode cX7_advance 106 = .ok (.aload_n 0, 1) := by decide +kernel
theorem dX7_advance_107 : decode cX7_advance 107 = .ok (.getfield 43, 3) := by decide +kernel
theorem dX7_advance_110 : decode cX7_advance 110 = .ok (.baload, 1) := by decide +kernel
theorem dX7_advance_111 : decode cX7_advance 111 = .ok (.invokestatic 62, 3) := by decide +kernel
theorem dX7_advance_114 : decode cX7_advance 114 = .ok (.ifCond .eq 10, 3) := by decide +kernel
theorem dX7_advance_117 : decode cX7_advance 117 = .ok (.aload_n 0, 1) := by decide +kernel
theorem dX7_advance_118 : decode cX7_advance 118 = .ok (.invokevirtual 65, 3) := by decide +kernel
theorem dX7_advance_121 : decode cX7_advance 121 = .ok (.goto 38, 3) := by decide +kernel
theorem dX7_advance_124 : decode cX7_advance 124 = .ok (.aload_n 0, 1) := by decide +kernel
theorem dX7_advance_125 : decode cX7_advance 125 = .ok (.aload_n 0, 1) := by decide +kernel
theorem dX7_advance_126 : decode cX7_advance 126 = .ok (.getfield 13, 3) := by decide +kernel
theorem dX7_advance_129 : decode cX7_advance 129 = .ok (.aload_n 0, 1) := by decide +kernel
theorem dX7_advance_130 : decode cX7_advance 130 = .ok (.getfield 43, 3) := by decide +kernel
theorem dX7_advance_133 : decode cX7_advance 133 = .ok (.baload, 1) := by decide +kernel
theorem dX7_advance_134 : decode cX7_advance 134 = .ok (.bipush 59, 2) := by decide +kernel
theorem dX7_advance_136 : decode cX7_advance 136 = .ok (.if_icmp .ne 8, 3) := by decide +kernel
theorem dX7_advance_139 : decode cX7_advance 139 = .ok (.bipush 14, 2) := by decide +kernel
theorem dX7_advance_141 : decode cX7_advance 141 = .ok (.goto 5, 3) := by decide +kernel
theorem dX7_advance_144 : decode cX7_advance 144 = .ok (.bipush 16, 2) := by decide +kernel
theorem dX7_advance_146 : decode cX7_advance 146 = .ok (.putfield 52, 3) := by decide +kernel
theorem dX7_advance_149 : decode cX7_advance 149 = .ok (.aload_n 0, 1) := by decide +kernel
theorem dX7_advance_150 : decode cX7_advance 150 = .ok (.dup, 1) := by decide +kernel
theorem dX7_advance_151 : decode cX7_advance 151 = .ok (.getfield 43, 3) := by decide +kernel
theorem dX7_advance_154 : decode cX7_advance 154 = .ok (.iconst 1, 1) := by decide +kernel
theorem dX7_advance_155 : decode cX7_advance 155 = .ok (.iadd, 1) := by decide +kernel
theorem dX7_advance_156 : decode cX7_advance 156 = .ok (.putfield 43, 3) := by decide +kernel
theorem dX7_advance_159 : decode cX7_advance 159 = .ok (.return_, 1) := by decide +kernel
theorem dX8_text_0 : decode cX8_text 0 = .ok (.iload_n 1, 1) := by decide +kernel
theorem dX8_text_1 : decode cX8_text 1 = .ok (.ifCond .lt 14, 3) := by decide +kernel
theorem dX8_text_4 : decode cX8_text 4 = .ok (.iload_n 1, 1) := by decide +kernel
theorem dX8_text_5 : decode cX8_text 5 = .ok (.aload_n 0, 1) := by decide +kernel
theorem dX8_text_6 : decode cX8_text 6 = .ok (.getfield 10, 3) := by decide +kernel
theorem dX8_text_9 : decode cX8_text 9 = .ok (.getfield 77, 3) := by decide +kernel
theorem dX8_text_12 : decode cX8_text 12 = .ok (.if_icmp .le 5, 3) := by decide +kernel
theorem dX8_text_15 : decode cX8_text 15 = .ok (.iconst (-1), 1) := by decide +kernel
theorem dX8_text_16 : decode cX8_text 16 = .ok (.ireturn, 1) := by decide +kernel
theorem dX8_text_17 : decode cX8_text 17 = .ok (.aload_n 0, 1) := by decide +kernel
theorem dX8_text_18 : decode cX8_text 18 = .ok (.getfield 19, 3) := by decide +kernel
theorem dX8_text_21 : decode cX8_text 21 = .ok (.aload_n 0, 1) := by decide +kernel
theorem dX8_text_22 : decode cX8_text 22 = .ok (.getfield 10, 3) := by decide +kernel
theorem dX8_text_25 : decode cX8_text 25 = .ok (.getfield 81, 3) := by decide +kernel
theorem dX8_text_28 : decode cX8_text 28 = .ok (.iload_n 1, 1) := by decide +kernel
theorem dX8_text_29 : decode cX8_text 29 = .ok (.aload_n 0, 1) := by decide +kernel
theorem dX8_text_30 : decode cX8_text 30 = .ok (.getfield 55, 3) := by decide +kernel
theorem dX8_text_33 : decode cX8_text 33 = .ok (.aload_n 0, 1) := by decide +kernel
theorem dX8_text_34 : decode cX8_text 34 = .ok (.getfield 62, 3) := by decide +kernel
theorem dX8_text_37 : decode cX8_text 37 = .ok (.invokevirtual 85, 3) := by decide +kernel
theorem dX8_text_40 : decode cX8_text 40 = .ok (.istore_n 2, 1) := by decide +kernel
theorem dX8_text_41 : decode cX8_text 41 = .ok (.aload_n 0, 1) := by decide +kernel
theorem dX8_text_42 : decode cX8_text 42 = .ok (.getfield 10, 3) := by decide +kernel
theorem dX8_text_45 : decode cX8_text 45 = .ok (.iconst 0, 1) := by decide +kernel
theorem dX8_text_46 : decode cX8_text 46 = .ok (.putfield 77, 3) := by decide +kernel
theorem dX8_text_49 : decode cX8_text 49 = .ok (.iload_n 2, 1) := by decide +kernel
theorem dX8_text_50 : decode cX8_text 50 = .ok (.ifCond .lt 7, 3) := by decide +kernel
theorem dX8_text_53 : decode cX8_text 53 = .ok (.aload_n 0, 1) := by decide +kernel
theorem dX8_text_54 : decode cX8_text 54 = .ok (.invokevirtual 89, 3) := by decide +kernel
theorem dX8_text_57 : decode cX8_text 57 = .ok (.iload_n 2, 1) := by decide +kernel
theorem dX8_text_58 : decode cX8_text 58 = .ok (.ireturn, 1) := by decide +kernel
theorem dX8_takeWhatWasRead_0 : decode cX8_takeWhatWasRead 0 = .ok (.aload_n 0, 1) := by decide +kernel
theorem dX8_takeWhatWasRead_1 : decode cX8_takeWhatWasRead 1 = .ok (.getfield 51, 3) := by decide +kernel
theorem dX8_takeWhatWasRead_4 : decode cX8_takeWhatWasRead 4 = .ok (.astore_n 1, 1) := by decide +kernel
theorem dX8_takeWhatWasRead_5 : decode cX8_takeWhatWasRead 5 = .ok (.aload_n 0, 1) := by decide +kernel
theorem dX8_takeWhatWasRead_6 : decode cX8_takeWhatWasRead 6 = .ok (.aload_n 0, 1) := by decide +kernel
theorem dX8_takeWhatWasRead_7 : decode cX8_takeWhatWasRead 7 = .ok (.getfield 55, 3) := by decide +kernel
theorem dX8_takeWhatWasRead_10 : decode cX8_takeWhatWasRead 10 = .ok (.putfield 51, 3) := by decide +kernel
theorem dX8_takeWhatWasRead_13 : decode cX8_takeWhatWasRead 13 = .ok (.aload_n 0, 1) := by decide +kernel
theorem dX8_takeWhatWasRead_14 : decode cX8_takeWhatWasRead 14 = .ok (.aload_n 1, 1) := by decide +kernel
theorem dX8_takeWhatWasRead_15 : decode cX8_takeWhatWasRead 15 = .ok (.putfield 55, 3) := by decide +kernel
theorem dX8_takeWhatWasRead_18 : decode cX8_takeWhatWasRead 18 = .ok (.aload_n 0, 1) := by decide +kernel
theorem dX8_takeWhatWasRead_19 : decode cX8_takeWhatWasRead 19 = .ok (.getfield 58, 3) := by decide +kernel
theorem dX8_takeWhatWasRead_22 : decode cX8_takeWhatWasRead 22 = .ok (.astore_n 2, 1) := by decide +kernel
theorem dX8_takeWhatWasRead_23 : decode cX8_takeWhatWasRead 23 = .ok (.aload_n 0, 1) := by decide +kernel
theorem dX8_takeWhatWasRead_24 : decode cX8_takeWhatWasRead 24 = .ok (.aload_n 0, 1) := by decide +kernel
theorem dX8_takeWhatWasRead_25 : decode cX8_takeWhatWasRead 25 = .ok (.getfield 62, 3) := by decide +kernel
theorem dX8_takeWhatWasRead_28 : decode cX8_takeWhatWasRead 28 = .ok (.putfield 58, 3) := by decide +kernel
theorem dX8_takeWhatWasRead_31 : decode cX8_takeWhatWasRead 31 = .ok (.aload_n 0, 1) := by decide +kernel
theorem dX8_takeWhatWasRead_32 : decode cX8_takeWhatWasRead 32 = .ok (.aload_n 2, 1) := by decide +kernel
theorem dX8_takeWhatWasRead_33 : decode cX8_takeWhatWasRead 33 = .ok (.putfield 62, 3) := by decide +kernel
theorem dX8_takeWhatWasRead_36 : decode cX8_takeWhatWasRead 36 = .ok (.aload_n 0, 1) := by decide +kernel
theorem dX8_takeWhatWasRead_37 : decode cX8_takeWhatWasRead 37 = .ok (.getfield 33, 3) := by decide +kernel
theorem dX8_takeWhatWasRead_40 : decode cX8_takeWhatWasRead 40 = .ok (.invokevirtual 92, 3) := by decide +kernel
theorem dX8_takeWhatWasRead_43 : decode cX8_takeWhatWasRead 43 = .ok (.iconst 0, 1) := by decide +kernel
theorem dX8_takeWhatWasRead_44 : decode cX8_takeWhatWasRead 44 = .ok (.istore_n 3, 1) := by decide +kernel
theorem dX8_takeWhatWasRead_45 : decode cX8_takeWhatWasRead 45 = .ok (.iload_n 3, 1) := by decide +kernel
theorem dX8_takeWhatWasRead_46 : decode cX8_takeWhatWasRead 46 = .ok (.iconst 2, 1) := by decide +kernel
theorem dX8_takeWhatWasRead_47 : decode cX8_takeWhatWasRead 47 = .ok (.if_icmp .ge 16, 3) := by decide +kernel
theorem dX8_takeWhatWasRead_50 : decode cX8_takeWhatWasRead 50 = .ok (.aload_n 0, 1) := by decide +kernel
theorem dX8_takeWhatWasRead_51 : decode cX8_takeWhatWasRead 51 = .ok (.getfield 44, 3) := by decide +kernel
theorem dX8_takeWhatWasRead_54 : decode cX8_takeWhatWasRead 54 = .ok (.iload_n 3, 1) := by decide +kernel
theorem dX8_takeWhatWasRead_55 : decode cX8_takeWhatWasRead 55 = .ok (.iconst 0, 1) := by decide +kernel
theorem dX8_takeWhatWasRead_56 : decode cX8_takeWhatWasRead 56 = .ok (.bastore, 1) := by decide +kernel
theorem dX8_takeWhatWasRead_57 : decode cX8_takeWhatWasRead 57 = .ok (.iinc 3 1, 3) := by decide +kernel
theorem dX8_takeWhatWasRead_60 : decode cX8_takeWhatWasRead 60 = .ok (.goto (-15), 3) := by decide +kernel
theorem dX8_takeWhatWasRead_63 : decode cX8_takeWhatWasRead 63 = .ok (.aload_n 0, 1) := by decide +kernel
theorem dX8_takeWhatWasRead_64 : decode cX8_takeWhatWasRead 64 = .ok (.iconst 1, 1) := by decide +kernel
theorem dX8_takeWhatWasRead_65 : decode cX8_takeWhatWasRead 65 = .ok (.putfield 65, 3) := by decide +kernel
theorem dX8_takeWhatWasRead_68 : decode cX8_takeWhatWasRead 68 = .ok (.return_, 1) := by decide +kernel
theorem qw_296 : (Cond.fieldLink RX1 49 "ClosedUntil$Holdings" "deposits" "I" : Cond) ∈ TBL := List.mem_of_getElem? (i := 224) (by decide +kernel)
theorem qw_297 : (Cond.fieldLink RX7 43 "ClosedUntil$Tokens" "at" "I" : Cond) ∈ TBL := List.mem_of_getElem? (i := 235) (by decide +kernel)
theorem qw_298 : (Cond.fieldLink RX7 39 "ClosedUntil$Tokens" "end" "I" : Cond) ∈ TBL := List.mem_of_getElem? (i := 234) (by decide +kernel)
theorem qw_299 : (Cond.fieldLink RX7 49 "ClosedUntil$Tokens" "place" "I" : Cond) ∈ TBL := List.mem_of_getElem? (i := 240) (by decide +kernel)
theorem qw_300 : (Cond.fieldLink RX7 52 "ClosedUntil$Tokens" "kind" "I" : Cond) ∈ TBL := List.mem_of_getElem? (i := 241) (by decide +kernel)
theorem qw_301 : (Cond.methodLink RX7 33 Lib.Math.min.name : Cond) ∈ TBL := List.mem_of_getElem? (i := 230) (by decide +kernel)
theorem qw_302 : (Cond.code yX7_advance cX7_advance 1 none : Cond) ∈ TBL := List.mem_of_getElem? (i := 239) (by decide +kernel)
theorem qw_303 : (Cond.methodLink RX7 46 yX7_advance : Cond) ∈ TBL := List.mem_of_getElem? (i := 236) (by decide +kernel)
theorem qw_304 : (Cond.instanceMethod yX7_advance : Cond) ∈ TBL := List.mem_of_getElem? (i := 237) (by decide +kernel)
theorem qw_305 : (Cond.selects RX7 yX7_advance yX7_advance : Cond) ∈ TBL := List.mem_of_getElem? (i := 238) (by decide +kernel)
theorem qw_306 : (Cond.code yX1_clear cX1_clear 1 none : Cond) ∈ TBL := List.mem_of_getElem? (i := 222) (by decide +kernel)
theorem qw_307 : (Cond.instanceMethod yX1_clear : Cond) ∈ TBL := List.mem_of_getElem? (i := 220) (by decide +kernel)
theorem qw_308 : (Cond.selects RX1 yX1_clear yX1_clear : Cond) ∈ TBL := List.mem_of_getElem? (i := 221) (by decide +kernel)
theorem qw_309 : (Cond.fieldLink RX5 37 "ClosedUntil$TextReader" "nameCount" "I" : Cond) ∈ TBL := List.mem_of_getElem? (i := 218) (by decide +kernel)
theorem qw_310 : (Cond.fieldLink RX5 41 "ClosedUntil$TextReader" "fault" "I" : Cond) ∈ TBL := List.mem_of_getElem? (i := 219) (by decide +kernel)
theorem qw_311 : (Cond.code yX7_start cX7_start 3 none : Cond) ∈ TBL := List.mem_of_getElem? (i := 229) (by decide +kernel)
theorem qw_312 : (Cond.instanceMethod yX7_start : Cond) ∈ TBL := List.mem_of_getElem? (i := 227) (by decide +kernel)
theorem qw_313 : (Cond.selects RX7 yX7_start yX7_start : Cond) ∈ TBL := List.mem_of_getElem? (i := 228) (by decide +kernel)
theorem qw_314 : (Cond.fieldLink RX2 21 "ClosedUntil$Journal" "size" "I" : Cond) ∈ TBL := List.mem_of_getElem? (i := 345) (by decide +kernel)
theorem qw_315 : (Cond.code yX2_forgetAll cX2_forgetAll 1 none : Cond) ∈ TBL := List.mem_of_getElem? (i := 344) (by decide +kernel)
theorem qw_316 : (Cond.instanceMethod yX2_forgetAll : Cond) ∈ TBL := List.mem_of_getElem? (i := 342) (by decide +kernel)
theorem qw_317 : (Cond.selects RX2 yX2_forgetAll yX2_forgetAll : Cond) ∈ TBL := List.mem_of_getElem? (i := 343) (by decide +kernel)
theorem qw_318 : (Cond.code yX5_read cX5_read 6 (some .int) : Cond) ∈ TBL := List.mem_of_getElem? (i := 217) (by decide +kernel)
theorem qw_319 : (Cond.instanceMethod yX5_read : Cond) ∈ TBL := List.mem_of_getElem? (i := 215) (by decide +kernel)
theorem qw_320 : (Cond.selects RX5 yX5_read yX5_read : Cond) ∈ TBL := List.mem_of_getElem? (i := 216) (by decide +kernel)
theorem qw_321 : (Cond.code yX8_takeWhatWasRead cX8_takeWhatWasRead 4 none : Cond) ∈ TBL := List.mem_of_getElem? (i := 341) (by decide +kernel)
theorem qw_322 : (Cond.methodLink RX8 89 yX8_takeWhatWasRead : Cond) ∈ TBL := List.mem_of_getElem? (i := 338) (by decide +kernel)
theorem qw_323 : (Cond.instanceMethod yX8_takeWhatWasRead : Cond) ∈ TBL := List.mem_of_getElem? (i := 339) (by decide +kernel)
theorem qw_324 : (Cond.selects RX8 yX8_takeWhatWasRead yX8_takeWhatWasRead : Cond) ∈ TBL := List.mem_of_getElem? (i := 340) (by decide +kernel)
set_option maxHeartbeats 4000000 in
set_option maxRecDepth 100000 in
theorem c_hc (l : Launch) (dC : Nat → ClassId) (dI : Nat → Nat → Nat) (g : Gv) (sz : Nat) (h0 : Nat) (f1 : Nat → Nat)  : Met l yX1_clear (.code yX1_clear cX1_clear 1 none :: TBL) ({ frames := 0, cells := 0, slots := 0, locals := 0 }) (va_Pc [.ref h0] (fun U => U.heap.size = sz ∧ va_P (dC, dI) vwCl [(h0, .inr (0, [.int 0, .ref (f1 1), .int 0, .ref (f1 3), .int 0, .ref (f1 5), .ref (f1 6), .ref (f1 7), .int 0, .ref (f1 9), .ref (f1 10), .ref (f1 11), .ref (f1 12), .ref (f1 13)]))] U.heap ∧ va_K (dC, dI) vwCl [] U ∧ va_D (fun _ => True) [(h0, .inr (0, [.int 0, .ref (f1 1), .int 0, .ref (f1 3), .int 0, .ref (f1 5), .ref (f1 6), .ref (f1 7), .int 0, .ref (f1 9), .ref (f1 10), .ref (f1 11), .ref (f1 12), .ref (f1 13)]))] ∧ Ev g (va_A [(h0, .inr (0, [.int 0, .ref (f1 1), .int 0, .ref (f1 3), .int 0, .ref (f1 5), .ref (f1 6), .ref (f1 7), .int 0, .ref (f1 9), .ref (f1 10), .ref (f1 11), .ref (f1 12), .ref (f1 13)]))] sz) U)) (va_Qv (fun (u : Unit) => True) (fun (u : Unit) (t : State) => va_P (dC, dI) vwCl [(h0, .inr (0, [.int 0, .ref (f1 1), .int 0, .ref (f1 3), .int 0, .ref (f1 5), .ref (f1 6), .ref (f1 7), .int 0, .ref (f1 9), .ref (f1 10), .ref (f1 11), .ref (f1 12), .ref (f1 13)]))] t.heap ∧ va_K (dC, dI) vwCl [] t ∧ va_D (va_A [(h0, .inr (0, [.int 0, .ref (f1 1), .int 0, .ref (f1 3), .int 0, .ref (f1 5), .ref (f1 6), .ref (f1 7), .int 0, .ref (f1 9), .ref (f1 10), .ref (f1 11), .ref (f1 12), .ref (f1 13)]))] sz) [(h0, .inr (0, [.int 0, .ref (f1 1), .int 0, .ref (f1 3), .int 0, .ref (f1 5), .ref (f1 6), .ref (f1 7), .int 0, .ref (f1 9), .ref (f1 10), .ref (f1 11), .ref (f1 12), .ref (f1 13)]))]) (va_A [(h0, .inr (0, [.int 0, .ref (f1 1), .int 0, .ref (f1 3), .int 0, .ref (f1 5), .ref (f1 6), .ref (f1 7), .int 0, .ref (f1 9), .ref (f1 10), .ref (f1 11), .ref (f1 12), .ref (f1 13)]))] sz)) 0 0 (va_A [(h0, .inr (0, [.int 0, .ref (f1 1), .int 0, .ref (f1 3), .int 0, .ref (f1 5), .ref (f1 6), .ref (f1 7), .int 0, .ref (f1 9), .ref (f1 10), .ref (f1 11), .ref (f1 12), .ref (f1 13)]))] sz) := by
  refine Met.ofW (cc := cX1_clear) (maxL := 1) (ret := none) (by decide) rfl ?_
  intro p e s m args below meth c s₁ B hml hv
  obtain ⟨rfl, hsz, hP, hK, hD0, hE⟩ := hv
  have hx := B.exec
  have hb := B.bytes
  have hr := B.returns
  have hts0 := atoms_spec (ws := (.code yX1_clear cX1_clear 1 none :: TBL)) B.pre
  have hts := fun (w : Cond) (h : w ∈ TBL) => hts0 w (List.mem_cons_of_mem _ h)
  have hown : s.vm.findClass RX1 = some m.cls := findClass_of_methodNamed B.named
  have hlocks := B.notSynchronized
  have hN := hE.1
  subst hsz
  have hD := hD0.self (sz := s.heap.size)
  generalize hAe : va_A [(h0, .inr (0, [.int 0, .ref (f1 1), .int 0, .ref (f1 3), .int 0, .ref (f1 5), .ref (f1 6), .ref (f1 7), .int 0, .ref (f1 9), .ref (f1 10), .ref (f1 11), .ref (f1 12), .ref (f1 13)]))] s.heap.size = A at hD hE ⊢
  have hA : ∀ q : Nat, s.heap.size ≤ q → A q := fun q h => by rw [← hAe]; exact Or.inr h
  have hS : va_S A s.heap s.heap [] := va_S.rf
  have hP : va_P (dC, dI) vwCl [(h0, .inr (0, [.int 0, .ref (f1 1), .int 0, .ref (f1 3), .int 0, .ref (f1 5), .ref (f1 6), .ref (f1 7), .int 0, .ref (f1 9), .ref (f1 10), .ref (f1 11), .ref (f1 12), .ref (f1 13)]))] s.heap := hP
  have hl := lv_entry ([.ref h0]) (n := 1) (Nat.le_of_ble_eq_true rfl)
  rw [lg_entry_eq]
  generalize (lg_sl ([.ref h0]) ++ List.replicate (1 - (lg_sl ([.ref h0])).length) Slot.unset).toArray = ls at hl ⊢
  have hl : lv_has ls 1 [(0, .ref h0)] := hl
  refine lv_aload_n hx hb dX1_clear_0 rfl (lv_at hl 0 rfl) ?_
  refine lv_iconst (v := 0) hx hb dX1_clear_1 (by decide) ?_
  refine va_put (D := (dC, dI)) (ci := 0) (v := .int 0) (ty := .int) (C := RX1) (T := TX1) (N := 14) hx hb hts inlX1 tyX1 tyX1_ok nmX1 hown hK hP hD hS 0 rfl rfl 0 (by decide) (hts (.fieldLink RX1 45 "ClosedUntil$Holdings" "people" "I") qw_235) (fun _ h9 => h9) rfl (by decide +kernel) rfl rfl (Nat.le_of_ble_eq_true rfl) dX1_clear_2 (fun H locs hP hD hS => ?_)
  have hP : va_P (dC, dI) vwCl [(h0, .inr (0, [.int 0, .ref (f1 1), .int 0, .ref (f1 3), .int 0, .ref (f1 5), .ref (f1 6), .ref (f1 7), .int 0, .ref (f1 9), .ref (f1 10), .ref (f1 11), .ref (f1 12), .ref (f1 13)]))] H := hP
  have hD : va_D A [(h0, .inr (0, [.int 0, .ref (f1 1), .int 0, .ref (f1 3), .int 0, .ref (f1 5), .ref (f1 6), .ref (f1 7), .int 0, .ref (f1 9), .ref (f1 10), .ref (f1 11), .ref (f1 12), .ref (f1 13)]))] := hD
  refine lv_aload_n hx hb dX1_clear_5 rfl (lv_at hl 0 rfl) ?_
  refine lv_iconst (v := 0) hx hb dX1_clear_6 (by decide) ?_
  refine va_put (D := (dC, dI)) (ci := 0) (v := .int 0) (ty := .int) (C := RX1) (T := TX1) (N := 14) hx hb hts inlX1 tyX1 tyX1_ok nmX1 hown hK hP hD hS 0 rfl rfl 2 (by decide) (hts (.fieldLink RX1 49 "ClosedUntil$Holdings" "deposits" "I") qw_296) (fun _ h9 => h9) rfl (by decide +kernel) rfl rfl (Nat.le_of_ble_eq_true rfl) dX1_clear_7 (fun H locs hP hD hS => ?_)
  have hP : va_P (dC, dI) vwCl [(h0, .inr (0, [.int 0, .ref (f1 1), .int 0, .ref (f1 3), .int 0, .ref (f1 5), .ref (f1 6), .ref (f1 7), .int 0, .ref (f1 9), .ref (f1 10), .ref (f1 11), .ref (f1 12), .ref (f1 13)]))] H := hP
  have hD : va_D A [(h0, .inr (0, [.int 0, .ref (f1 1), .int 0, .ref (f1 3), .int 0, .ref (f1 5), .ref (f1 6), .ref (f1 7), .int 0, .ref (f1 9), .ref (f1 10), .ref (f1 11), .ref (f1 12), .ref (f1 13)]))] := hD
  refine lv_aload_n hx hb dX1_clear_10 rfl (lv_at hl 0 rfl) ?_
  refine lv_iconst (v := 0) hx hb dX1_clear_11 (by decide) ?_
  refine va_put (D := (dC, dI)) (ci := 0) (v := .int 0) (ty := .int) (C := RX1) (T := TX1) (N := 14) hx hb hts inlX1 tyX1 tyX1_ok nmX1 hown hK hP hD hS 0 rfl rfl 4 (by decide) (hts (.fieldLink RX1 52 "ClosedUntil$Holdings" "pieces" "I") qw_236) (fun _ h9 => h9) rfl (by decide +kernel) rfl rfl (Nat.le_of_ble_eq_true rfl) dX1_clear_12 (fun H locs hP hD hS => ?_)
  have hP : va_P (dC, dI) vwCl [(h0, .inr (0, [.int 0, .ref (f1 1), .int 0, .ref (f1 3), .int 0, .ref (f1 5), .ref (f1 6), .ref (f1 7), .int 0, .ref (f1 9), .ref (f1 10), .ref (f1 11), .ref (f1 12), .ref (f1 13)]))] H := hP
  have hD : va_D A [(h0, .inr (0, [.int 0, .ref (f1 1), .int 0, .ref (f1 3), .int 0, .ref (f1 5), .ref (f1 6), .ref (f1 7), .int 0, .ref (f1 9), .ref (f1 10), .ref (f1 11), .ref (f1 12), .ref (f1 13)]))] := hD
  refine lv_aload_n hx hb dX1_clear_15 rfl (lv_at hl 0 rfl) ?_
  refine lv_iconst (v := 0) hx hb dX1_clear_16 (by decide) ?_
  refine va_put (D := (dC, dI)) (ci := 0) (v := .int 0) (ty := .int) (C := RX1) (T := TX1) (N := 14) hx hb hts inlX1 tyX1 tyX1_ok nmX1 hown hK hP hD hS 0 rfl rfl 8 (by decide) (hts (.fieldLink RX1 55 "ClosedUntil$Holdings" "closures" "I") qw_237) (fun _ h9 => h9) rfl (by decide +kernel) rfl rfl (Nat.le_of_ble_eq_true rfl) dX1_clear_17 (fun H locs hP hD hS => ?_)
  have hP : va_P (dC, dI) vwCl [(h0, .inr (0, [.int 0, .ref (f1 1), .int 0, .ref (f1 3), .int 0, .ref (f1 5), .ref (f1 6), .ref (f1 7), .int 0, .ref (f1 9), .ref (f1 10), .ref (f1 11), .ref (f1 12), .ref (f1 13)]))] H := hP
  have hD : va_D A [(h0, .inr (0, [.int 0, .ref (f1 1), .int 0, .ref (f1 3), .int 0, .ref (f1 5), .ref (f1 6), .ref (f1 7), .int 0, .ref (f1 9), .ref (f1 10), .ref (f1 11), .ref (f1 12), .ref (f1 13)]))] := hD
  refine W.widen (k := 0) (n := 0) (Nat.le_of_ble_eq_true rfl) (Nat.le_of_ble_eq_true rfl) ?_
  have hP9 := hP.sub (ws' := [(h0, .inr (0, [.int 0, .ref (f1 1), .int 0, .ref (f1 3), .int 0, .ref (f1 5), .ref (f1 6), .ref (f1 7), .int 0, .ref (f1 9), .ref (f1 10), .ref (f1 11), .ref (f1 12), .ref (f1 13)]))]) [0] rfl
  have hD9 := hD.sub (ws' := [(h0, .inr (0, [.int 0, .ref (f1 1), .int 0, .ref (f1 3), .int 0, .ref (f1 5), .ref (f1 6), .ref (f1 7), .int 0, .ref (f1 9), .ref (f1 10), .ref (f1 11), .ref (f1 12), .ref (f1 13)]))]) [0] (by decide) rfl
  have hK9 := hK.sub (tys' := []) [] rfl
  exact W.vret hx hb hr (fun t ht hW => ⟨⟨(), rfl, (trivial), by rw [ht]; exact hP9, va_K.moved hW.alike hK9, hD9⟩, hS.F ht⟩) hS.2.2 dX1_clear_20
set_option maxHeartbeats 4000000 in
set_option maxRecDepth 100000 in
theorem c_adv (l : Launch) (dC : Nat → ClassId) (dI : Nat → Nat → Nat) (g : Gv) (sz : Nat) (h0 : Nat) (f7 : Nat → Nat) (ba : Nat)  : Met l yX7_advance (.code yX7_advance cX7_advance 1 none :: TBL) ({ frames := 0, cells := 0, slots := 0, locals := 0 }) (va_Pc [.ref h0] (fun U => U.heap.size = sz ∧ va_P (dC, dI) vwCl [(h0, .inr (6, [.ref (f7 0), .ref ba, .int 0, .int 0, .int 0, .int 0, .long 0, .int 0]))] U.heap ∧ va_K (dC, dI) vwCl [] U ∧ va_D (fun _ => True) [(h0, .inr (6, [.ref (f7 0), .ref ba, .int 0, .int 0, .int 0, .int 0, .long 0, .int 0]))] ∧ Ev g (va_A [(h0, .inr (6, [.ref (f7 0), .ref ba, .int 0, .int 0, .int 0, .int 0, .long 0, .int 0]))] sz) U)) (va_Qv (fun (u : Unit) => True) (fun (u : Unit) (t : State) => va_P (dC, dI) vwCl [(h0, .inr (6, [.ref (f7 0), .ref ba, .int 0, .int 0, .int 15, .int 0, .long 0, .int 0]))] t.heap ∧ va_K (dC, dI) vwCl [] t ∧ va_D (va_A [(h0, .inr (6, [.ref (f7 0), .ref ba, .int 0, .int 0, .int 0, .int 0, .long 0, .int 0]))] sz) [(h0, .inr (6, [.ref (f7 0), .ref ba, .int 0, .int 0, .int 15, .int 0, .long 0, .int 0]))]) (va_A [(h0, .inr (6, [.ref (f7 0), .ref ba, .int 0, .int 0, .int 0, .int 0, .long 0, .int 0]))] sz)) 0 0 (va_A [(h0, .inr (6, [.ref (f7 0), .ref ba, .int 0, .int 0, .int 0, .int 0, .long 0, .int 0]))] sz) := by
  refine Met.ofW (cc := cX7_advance) (maxL := 1) (ret := none) (by decide) rfl ?_
  intro p e s m args below meth c s₁ B hml hv
  obtain ⟨rfl, hsz, hP, hK, hD0, hE⟩ := hv
  have hx := B.exec
  have hb := B.bytes
  have hr := B.returns
  have hts0 := atoms_spec (ws := (.code yX7_advance cX7_advance 1 none :: TBL)) B.pre
  have hts := fun (w : Cond) (h : w ∈ TBL) => hts0 w (List.mem_cons_of_mem _ h)
  have hown : s.vm.findClass RX7 = some m.cls := findClass_of_methodNamed B.named
  have hlocks := B.notSynchronized
  have hN := hE.1
  subst hsz
  have hD := hD0.self (sz := s.heap.size)
  generalize hAe : va_A [(h0, .inr (6, [.ref (f7 0), .ref ba, .int 0, .int 0, .int 0, .int 0, .long 0, .int 0]))] s.heap.size = A at hD hE ⊢
  have hA : ∀ q : Nat, s.heap.size ≤ q → A q := fun q h => by rw [← hAe]; exact Or.inr h
  have hS : va_S A s.heap s.heap [] := va_S.rf
  have hP : va_P (dC, dI) vwCl [(h0, .inr (6, [.ref (f7 0), .ref ba, .int 0, .int 0, .int 0, .int 0, .long 0, .int 0]))] s.heap := hP
  have hl := lv_entry ([.ref h0]) (n := 1) (Nat.le_of_ble_eq_true rfl)
  rw [lg_entry_eq]
  generalize (lg_sl ([.ref h0]) ++ List.replicate (1 - (lg_sl ([.ref h0])).length) Slot.unset).toArray = ls at hl ⊢
  have hl : lv_has ls 1 [(0, .ref h0)] := hl
  refine lv_aload_n hx hb dX7_advance_0 rfl (lv_at hl 0 rfl) ?_
  refine va_get (D := (dC, dI)) (ci := 6) (v := .int 0) (C := RX7) (T := TX7) (N := 8) hx hb hts inlX7 hown hK hP 0 rfl rfl 3 (by decide) (hts (.fieldLink RX7 43 "ClosedUntil$Tokens" "at" "I") qw_297) (fun _ h9 => h9) rfl dX7_advance_1 ?_
  refine lv_aload_n hx hb dX7_advance_4 rfl (lv_at hl 0 rfl) ?_
  refine va_get (D := (dC, dI)) (ci := 6) (v := .int 0) (C := RX7) (T := TX7) (N := 8) hx hb hts inlX7 hown hK hP 0 rfl rfl 2 (by decide) (hts (.fieldLink RX7 39 "ClosedUntil$Tokens" "end" "I") qw_298) (fun _ h9 => h9) rfl dX7_advance_5 ?_
  refine lv_icmp_ge (tgt := 52) hx hb dX7_advance_8 (by decide) (fun c8_1 => ?_) (fun c8_1 => by exfalso; exact absurd c8_1 (by decide))
  refine lv_aload_n hx hb dX7_advance_52 rfl (lv_at hl 0 rfl) ?_
  refine lv_aload_n hx hb dX7_advance_53 rfl (lv_at hl 0 rfl) ?_
  refine va_get (D := (dC, dI)) (ci := 6) (v := .int 0) (C := RX7) (T := TX7) (N := 8) hx hb hts inlX7 hown hK hP 0 rfl rfl 3 (by decide) (hts (.fieldLink RX7 43 "ClosedUntil$Tokens" "at" "I") qw_297) (fun _ h9 => h9) rfl dX7_advance_54 ?_
  refine va_put (D := (dC, dI)) (ci := 6) (v := .int 0) (ty := .int) (C := RX7) (T := TX7) (N := 8) hx hb hts inlX7 tyX7 tyX7_ok nmX7 hown hK hP hD hS 0 rfl rfl 5 (by decide) (hts (.fieldLink RX7 49 "ClosedUntil$Tokens" "place" "I") qw_299) (fun _ h9 => h9) rfl (by decide +kernel) rfl rfl (Nat.le_of_ble_eq_true rfl) dX7_advance_57 (fun H locs hP hD hS => ?_)
  have hP : va_P (dC, dI) vwCl [(h0, .inr (6, [.ref (f7 0), .ref ba, .int 0, .int 0, .int 0, .int 0, .long 0, .int 0]))] H := hP
  have hD : va_D A [(h0, .inr (6, [.ref (f7 0), .ref ba, .int 0, .int 0, .int 0, .int 0, .long 0, .int 0]))] := hD
  refine lv_aload_n hx hb dX7_advance_60 rfl (lv_at hl 0 rfl) ?_
  refine va_get (D := (dC, dI)) (ci := 6) (v := .int 0) (C := RX7) (T := TX7) (N := 8) hx hb hts inlX7 hown hK hP 0 rfl rfl 3 (by decide) (hts (.fieldLink RX7 43 "ClosedUntil$Tokens" "at" "I") qw_297) (fun _ h9 => h9) rfl dX7_advance_61 ?_
  refine lv_aload_n hx hb dX7_advance_64 rfl (lv_at hl 0 rfl) ?_
  refine va_get (D := (dC, dI)) (ci := 6) (v := .int 0) (C := RX7) (T := TX7) (N := 8) hx hb hts inlX7 hown hK hP 0 rfl rfl 2 (by decide) (hts (.fieldLink RX7 39 "ClosedUntil$Tokens" "end" "I") qw_298) (fun _ h9 => h9) rfl dX7_advance_65 ?_
  refine lv_icmp_lt (tgt := 80) hx hb dX7_advance_68 (by decide) (fun c68_2 => by exfalso; exact absurd c68_2 (by decide)) (fun c68_2 => ?_)
  refine lv_aload_n hx hb dX7_advance_71 rfl (lv_at hl 0 rfl) ?_
  refine lv_bipush (v := 15) hx hb dX7_advance_72 (by decide) ?_
  refine va_put (D := (dC, dI)) (ci := 6) (v := .int 15) (ty := .int) (C := RX7) (T := TX7) (N := 8) hx hb hts inlX7 tyX7 tyX7_ok nmX7 hown hK hP hD hS 0 rfl rfl 4 (by decide) (hts (.fieldLink RX7 52 "ClosedUntil$Tokens" "kind" "I") qw_300) (fun _ h9 => h9) rfl (by decide +kernel) rfl rfl (Nat.le_of_ble_eq_true rfl) dX7_advance_74 (fun H locs hP hD hS => ?_)
  have hP : va_P (dC, dI) vwCl [(h0, .inr (6, [.ref (f7 0), .ref ba, .int 0, .int 0, .int 15, .int 0, .long 0, .int 0]))] H := hP
  have hD : va_D A [(h0, .inr (6, [.ref (f7 0), .ref ba, .int 0, .int 0, .int 15, .int 0, .long 0, .int 0]))] := hD
  refine lv_goto (tgt := 159) hx hb dX7_advance_77 (by decide) ?_
  refine W.widen (k := 0) (n := 0) (Nat.le_of_ble_eq_true rfl) (Nat.le_of_ble_eq_true rfl) ?_
  have hP9 := hP.sub (ws' := [(h0, .inr (6, [.ref (f7 0), .ref ba, .int 0, .int 0, .int 15, .int 0, .long 0, .int 0]))]) [0] rfl
  have hD9 := hD.sub (ws' := [(h0, .inr (6, [.ref (f7 0), .ref ba, .int 0, .int 0, .int 15, .int 0, .long 0, .int 0]))]) [0] (by decide) rfl
  have hK9 := hK.sub (tys' := []) [] rfl
  exact W.vret hx hb hr (fun t ht hW => ⟨⟨(), rfl, (trivial), by rw [ht]; exact hP9, va_K.moved hW.alike hK9, hD9⟩, hS.F ht⟩) hS.2.2 dX7_advance_159
set_option maxHeartbeats 4000000 in
set_option maxRecDepth 100000 in
theorem c_sta (l : Launch) (dC : Nat → ClassId) (dI : Nat → Nat → Nat) (g : Gv) (sz : Nat) (h0 : Nat) (f7 : Nat → Nat) (ba : Nat) (c4 : ClassId)  : Met l yX7_start (.code yX7_start cX7_start 3 none :: TBL) ({ frames := 1, cells := 0, slots := 0, locals := 60 }) (va_Pc [.ref h0, .ref ba, .int 0] (fun U => U.heap.size = sz ∧ va_P (dC, dI) vwCl [(h0, .inr (6, [.ref (f7 0), .ref (f7 1), .int 0, .int 0, .int 0, .int 0, .long 0, .int 0])), (ba, .inl (c4, 1000, .inl (fun _ => 0)))] U.heap ∧ va_K (dC, dI) vwCl [(c4, .byte)] U ∧ va_D (fun _ => True) [(h0, .inr (6, [.ref (f7 0), .ref (f7 1), .int 0, .int 0, .int 0, .int 0, .long 0, .int 0])), (ba, .inl (c4, 1000, .inl (fun _ => 0)))] ∧ Ev g (va_A [(h0, .inr (6, [.ref (f7 0), .ref (f7 1), .int 0, .int 0, .int 0, .int 0, .long 0, .int 0])), (ba, .inl (c4, 1000, .inl (fun _ => 0)))] sz) U)) (va_Qv (fun (u : Unit) => True) (fun (u : Unit) (t : State) => va_P (dC, dI) vwCl [(h0, .inr (6, [.ref (f7 0), .ref ba, .int 0, .int 0, .int 15, .int 0, .long 0, .int 0]))] t.heap ∧ va_K (dC, dI) vwCl [] t ∧ va_D (va_A [(h0, .inr (6, [.ref (f7 0), .ref (f7 1), .int 0, .int 0, .int 0, .int 0, .long 0, .int 0])), (ba, .inl (c4, 1000, .inl (fun _ => 0)))] sz) [(h0, .inr (6, [.ref (f7 0), .ref ba, .int 0, .int 0, .int 15, .int 0, .long 0, .int 0]))]) (va_A [(h0, .inr (6, [.ref (f7 0), .ref (f7 1), .int 0, .int 0, .int 0, .int 0, .long 0, .int 0])), (ba, .inl (c4, 1000, .inl (fun _ => 0)))] sz)) 0 0 (va_A [(h0, .inr (6, [.ref (f7 0), .ref (f7 1), .int 0, .int 0, .int 0, .int 0, .long 0, .int 0])), (ba, .inl (c4, 1000, .inl (fun _ => 0)))] sz) := by
  refine Met.ofW (cc := cX7_start) (maxL := 3) (ret := none) (by decide) rfl ?_
  intro p e s m args below meth c s₁ B hml hv
  obtain ⟨rfl, hsz, hP, hK, hD0, hE⟩ := hv
  have hx := B.exec
  have hb := B.bytes
  have hr := B.returns
  have hts0 := atoms_spec (ws := (.code yX7_start cX7_start 3 none :: TBL)) B.pre
  have hts := fun (w : Cond) (h : w ∈ TBL) => hts0 w (List.mem_cons_of_mem _ h)
  have hown : s.vm.findClass RX7 = some m.cls := findClass_of_methodNamed B.named
  have hlocks := B.notSynchronized
  have hN := hE.1
  subst hsz
  have hD := hD0.self (sz := s.heap.size)
  generalize hAe : va_A [(h0, .inr (6, [.ref (f7 0), .ref (f7 1), .int 0, .int 0, .int 0, .int 0, .long 0, .int 0])), (ba, .inl (c4, 1000, .inl (fun _ => 0)))] s.heap.size = A at hD hE ⊢
  have hA : ∀ q : Nat, s.heap.size ≤ q → A q := fun q h => by rw [← hAe]; exact Or.inr h
  have hS : va_S A s.heap s.heap [] := va_S.rf
  have hP : va_P (dC, dI) vwCl [(h0, .inr (6, [.ref (f7 0), .ref (f7 1), .int 0, .int 0, .int 0, .int 0, .long 0, .int 0])), (ba, .inl (c4, 1000, .inl (fun _ => 0)))] s.heap := hP
  have hl := lv_entry ([.ref h0, .ref ba, .int 0]) (n := 3) (Nat.le_of_ble_eq_true rfl)
  rw [lg_entry_eq]
  generalize (lg_sl ([.ref h0, .ref ba, .int 0]) ++ List.replicate (3 - (lg_sl ([.ref h0, .ref ba, .int 0])).length) Slot.unset).toArray = ls at hl ⊢
  have hl : lv_has ls 3 [(0, .ref h0), (1, .ref ba), (2, .int 0)] := hl
  refine lv_aload_n hx hb dX7_start_0 rfl (lv_at hl 0 rfl) ?_
  refine lv_aload_n hx hb dX7_start_1 rfl (lv_at hl 1 rfl) ?_
  refine va_put (D := (dC, dI)) (ci := 6) (v := .ref ba) (ty := .array .byte) (C := RX7) (T := TX7) (N := 8) hx hb hts inlX7 tyX7 tyX7_ok nmX7 hown hK hP hD hS 0 rfl rfl 1 (by decide) (hts (.fieldLink RX7 13 "ClosedUntil$Tokens" "bytes" "[B") qw_138) (fun _ h9 => h9) rfl (by decide +kernel) rfl rfl (Nat.le_of_ble_eq_true rfl) dX7_start_2 (fun H locs hP hD hS => ?_)
  have hP : va_P (dC, dI) vwCl [(h0, .inr (6, [.ref (f7 0), .ref ba, .int 0, .int 0, .int 0, .int 0, .long 0, .int 0])), (ba, .inl (c4, 1000, .inl (fun _ => 0)))] H := hP
  have hD : va_D A [(h0, .inr (6, [.ref (f7 0), .ref ba, .int 0, .int 0, .int 0, .int 0, .long 0, .int 0])), (ba, .inl (c4, 1000, .inl (fun _ => 0)))] := hD
  refine lv_aload_n hx hb dX7_start_5 rfl (lv_at hl 0 rfl) ?_
  refine lv_iload_n hx hb dX7_start_6 rfl (lv_at hl 2 rfl) ?_
  refine lv_aload_n hx hb dX7_start_7 rfl (lv_at hl 1 rfl) ?_
  refine va_alen hx hb hK hP 1 0 rfl rfl (v := 1000) (show Int32.ofNat 1000 = 1000 from by decide) dX7_start_8 ?_
  refine va_mmin hx hb (by rw [hml]; exact hl.1.symm) hown (hts (.methodLink RX7 33 Lib.Math.min.name) qw_301) (hts (.static Lib.Math.min.name) qw_17) (hts (.initialized "java/lang/Math") qw_15) (hts (.code Lib.Math.min.name Lib.Math.min.code 2 (some .int)) qw_18) (Nat.le_of_ble_eq_true rfl) (Nat.le_of_ble_eq_true rfl) (Nat.le_of_ble_eq_true rfl) (Nat.le_of_ble_eq_true rfl) dX7_start_9 ?_
  refine cst (v := 0) (by decide) ?_
  refine va_put (D := (dC, dI)) (ci := 6) (v := .int 0) (ty := .int) (C := RX7) (T := TX7) (N := 8) hx hb hts inlX7 tyX7 tyX7_ok nmX7 hown hK hP hD hS 0 rfl rfl 2 (by decide) (hts (.fieldLink RX7 39 "ClosedUntil$Tokens" "end" "I") qw_298) (fun _ h9 => h9) rfl (by decide +kernel) rfl rfl (Nat.le_of_ble_eq_true rfl) dX7_start_12 (fun H locs hP hD hS => ?_)
  have hP : va_P (dC, dI) vwCl [(h0, .inr (6, [.ref (f7 0), .ref ba, .int 0, .int 0, .int 0, .int 0, .long 0, .int 0])), (ba, .inl (c4, 1000, .inl (fun _ => 0)))] H := hP
  have hD : va_D A [(h0, .inr (6, [.ref (f7 0), .ref ba, .int 0, .int 0, .int 0, .int 0, .long 0, .int 0])), (ba, .inl (c4, 1000, .inl (fun _ => 0)))] := hD
  refine lv_aload_n hx hb dX7_start_15 rfl (lv_at hl 0 rfl) ?_
  refine lv_iconst (v := 0) hx hb dX7_start_16 (by decide) ?_
  refine va_put (D := (dC, dI)) (ci := 6) (v := .int 0) (ty := .int) (C := RX7) (T := TX7) (N := 8) hx hb hts inlX7 tyX7 tyX7_ok nmX7 hown hK hP hD hS 0 rfl rfl 3 (by decide) (hts (.fieldLink RX7 43 "ClosedUntil$Tokens" "at" "I") qw_297) (fun _ h9 => h9) rfl (by decide +kernel) rfl rfl (Nat.le_of_ble_eq_true rfl) dX7_start_17 (fun H locs hP hD hS => ?_)
  have hP : va_P (dC, dI) vwCl [(h0, .inr (6, [.ref (f7 0), .ref ba, .int 0, .int 0, .int 0, .int 0, .long 0, .int 0])), (ba, .inl (c4, 1000, .inl (fun _ => 0)))] H := hP
  have hD : va_D A [(h0, .inr (6, [.ref (f7 0), .ref ba, .int 0, .int 0, .int 0, .int 0, .long 0, .int 0])), (ba, .inl (c4, 1000, .inl (fun _ => 0)))] := hD
  refine lv_aload_n hx hb dX7_start_20 rfl (lv_at hl 0 rfl) ?_
  have hPc := hP.sub (ws' := [(h0, .inr (6, [.ref (f7 0), .ref ba, .int 0, .int 0, .int 0, .int 0, .long 0, .int 0]))]) [0] rfl
  have hKc := hK.sub (tys' := []) [] rfl
  have hDc := hD.sub (ws' := [(h0, .inr (6, [.ref (f7 0), .ref ba, .int 0, .int 0, .int 0, .int 0, .long 0, .int 0]))]) [0] (by decide) rfl
  have hFc := va_free (wc := [(h0, .inr (6, [.ref (f7 0), .ref ba, .int 0, .int 0, .int 0, .int 0, .long 0, .int 0]))]) hD hS hA [0] rfl
  refine va_callv (va_runV (As := []) (rest := []) ⟨hx, hb, hml, hown, hts⟩ (c_adv l dC dI g H.size (h0) (f7) (ba) ) (cwV 0 hts (gwV qw_303 qw_304 qw_305 qw_148 qw_302) rfl rfl rfl (by decide +kernel) ⟨Nat.le_of_ble_eq_true rfl, Nat.le_of_ble_eq_true rfl⟩) ⟨fun a U g9 mk q => ⟨q.1, q.2.1, q.2.2.1, va_K.moved (u := U) (U := U.calling g9 mk a) (Vm.Alike.refl U.vm) q.2.2.2.1, q.2.2.2.2.1, Ev.bl q.2.2.2.2.2⟩, va_recv hK hP (ci := 6) (q0 := 0) rfl rfl, fun U hU hW => ⟨rfl, by rw [hU], by rw [hU]; exact hPc, va_K.moved hW.alike hKc, hDc.weaken (fun _ _ _ _ => trivial), hE.go hS hFc hU hW⟩⟩ rfl rfl hl.1 rfl (lv_room (Nat.le_of_ble_eq_true rfl)) dX7_start_21 ⟨Nat.le_of_ble_eq_true rfl, Nat.le_of_ble_eq_true rfl⟩) hS (fun q _ h => hFc q h) hFc (fun u1 t H1 locs ht hvm h_u1 hB hz1 hk1 hS => ?_)
  obtain ⟨hP1, hK1, hD1⟩ := hB
  rw [ht] at hP1
  have hK1 := va_K.moved hvm.symm hK1
  obtain ⟨hP, hD⟩ := va_join (wr := [(ba, .inl (c4, 1000, .inl (fun _ => 0)))]) (w1 := [(h0, .inr (6, [.ref (f7 0), .ref ba, .int 0, .int 0, .int 15, .int 0, .long 0, .int 0]))]) hP hD [0] [1] rfl rfl (by decide) (by decide) hk1 hFc hP1 hD1
  have hK := hK.app hK1
  have hK : va_K (dC, dI) vwCl [(c4, .byte)] s := hK
  generalize H1 = H at hP hS ⊢
  have hP : va_P (dC, dI) vwCl [(ba, .inl (c4, 1000, .inl (fun _ => 0))), (h0, .inr (6, [.ref (f7 0), .ref ba, .int 0, .int 0, .int 15, .int 0, .long 0, .int 0]))] H := hP
  have hD : va_D A [(ba, .inl (c4, 1000, .inl (fun _ => 0))), (h0, .inr (6, [.ref (f7 0), .ref ba, .int 0, .int 0, .int 15, .int 0, .long 0, .int 0]))] := hD
  refine W.widen (k := 0) (n := 0) (Nat.le_of_ble_eq_true rfl) (Nat.le_of_ble_eq_true rfl) ?_
  refine W.widen (k := 0) (n := 0) (Nat.le_of_ble_eq_true rfl) (Nat.le_of_ble_eq_true rfl) ?_
  have hP9 := hP.sub (ws' := [(h0, .inr (6, [.ref (f7 0), .ref ba, .int 0, .int 0, .int 15, .int 0, .long 0, .int 0]))]) [1] rfl
  have hD9 := hD.sub (ws' := [(h0, .inr (6, [.ref (f7 0), .ref ba, .int 0, .int 0, .int 15, .int 0, .long 0, .int 0]))]) [1] (by decide) rfl
  have hK9 := hK.sub (tys' := []) [] rfl
  exact W.vret hx hb hr (fun t ht hW => ⟨⟨(), rfl, (trivial), by rw [ht]; exact hP9, va_K.moved hW.alike hK9, hD9⟩, hS.F ht⟩) hS.2.2 dX7_start_24
set_option maxHeartbeats 4000000 in
set_option maxRecDepth 100000 in
theorem c_rd (l : Launch) (dC : Nat → ClassId) (dI : Nat → Nat → Nat) (g : Gv) (sz : Nat) (b : Nat → Nat) (f4 : Nat → Nat) (c4 : ClassId) (f5 : Nat → Nat) (f7 : Nat → Nat) (f6 : Nat → Nat) (f2 : Nat → Nat) (cK : ClassId) (kf : Nat → Option Nat) (cZ : ClassId) (fT : Nat → Nat) (fU : Nat → Nat) (sa : Nat → Nat) (sf : Nat → Nat → Nat) (sc : Nat → Nat → ClassId) (spf : Nat → Nat → Int32) (sdf : Nat → Nat → Int32) (slf : Nat → Nat → Int32) (srf : Nat → Nat → Int32) (sga : Nat → Nat → Option Nat) (sgb : Nat → Nat → Option Nat) (rows : va_W)  : Met l yX5_read (.code yX5_read cX5_read 6 (some .int) :: TBL) ({ frames := 2, cells := 0, slots := 0, locals := 120 }) (va_Pc [.ref (b 1), .ref (f4 0), .int 0, .ref (b 7), .ref (b 9)] (fun U => U.heap.size = sz ∧ va_P (dC, dI) vwCl [((b 1), .inr (4, [.ref (f5 0), .ref (f5 1), .ref (f5 2), .ref (f5 3), .int 0, .int 0])), ((f5 0), .inr (6, [.ref (f7 0), .ref (f7 1), .int 0, .int 0, .int 0, .int 0, .long 0, .int 0])), ((f4 0), .inl (c4, 1000, .inl (fun _ => 0))), ((b 7), .inr (0, [.int 0, .ref (fU 1), .int 0, .ref (fU 3), .int 0, .ref (fU 5), .ref (fU 6), .ref (fU 7), .int 0, .ref (fU 9), .ref (fU 10), .ref (fU 11), .ref (fU 12), .ref (fU 13)])), ((b 9), .inr (2, [.ref ((sf 3) 0), .ref ((sf 3) 1), .ref ((sf 3) 2), .ref ((sf 3) 3), .ref ((sf 3) 4), .ref ((sf 3) 5)])), (((sf 3) 0), .inl (((sc 3) 0), 24, .inl (spf 3))), (((sf 3) 1), .inl (((sc 3) 1), 8, .inl (sdf 3))), (((sf 3) 2), .inl (((sc 3) 2), 12, .inl (slf 3))), (((sf 3) 3), .inl (((sc 3) 3), 12, .inl (srf 3)))] U.heap ∧ va_K (dC, dI) vwCl [(c4, .byte), (((sc 3) 0), .int), (((sc 3) 1), .int), (((sc 3) 2), .int), (((sc 3) 3), .int)] U ∧ va_D (fun _ => True) [((b 1), .inr (4, [.ref (f5 0), .ref (f5 1), .ref (f5 2), .ref (f5 3), .int 0, .int 0])), ((f5 0), .inr (6, [.ref (f7 0), .ref (f7 1), .int 0, .int 0, .int 0, .int 0, .long 0, .int 0])), ((f4 0), .inl (c4, 1000, .inl (fun _ => 0))), ((b 7), .inr (0, [.int 0, .ref (fU 1), .int 0, .ref (fU 3), .int 0, .ref (fU 5), .ref (fU 6), .ref (fU 7), .int 0, .ref (fU 9), .ref (fU 10), .ref (fU 11), .ref (fU 12), .ref (fU 13)])), ((b 9), .inr (2, [.ref ((sf 3) 0), .ref ((sf 3) 1), .ref ((sf 3) 2), .ref ((sf 3) 3), .ref ((sf 3) 4), .ref ((sf 3) 5)])), (((sf 3) 0), .inl (((sc 3) 0), 24, .inl (spf 3))), (((sf 3) 1), .inl (((sc 3) 1), 8, .inl (sdf 3))), (((sf 3) 2), .inl (((sc 3) 2), 12, .inl (slf 3))), (((sf 3) 3), .inl (((sc 3) 3), 12, .inl (srf 3)))] ∧ Ev g (va_A [((b 1), .inr (4, [.ref (f5 0), .ref (f5 1), .ref (f5 2), .ref (f5 3), .int 0, .int 0])), ((f5 0), .inr (6, [.ref (f7 0), .ref (f7 1), .int 0, .int 0, .int 0, .int 0, .long 0, .int 0])), ((f4 0), .inl (c4, 1000, .inl (fun _ => 0))), ((b 7), .inr (0, [.int 0, .ref (fU 1), .int 0, .ref (fU 3), .int 0, .ref (fU 5), .ref (fU 6), .ref (fU 7), .int 0, .ref (fU 9), .ref (fU 10), .ref (fU 11), .ref (fU 12), .ref (fU 13)])), ((b 9), .inr (2, [.ref ((sf 3) 0), .ref ((sf 3) 1), .ref ((sf 3) 2), .ref ((sf 3) 3), .ref ((sf 3) 4), .ref ((sf 3) 5)])), (((sf 3) 0), .inl (((sc 3) 0), 24, .inl (spf 3))), (((sf 3) 1), .inl (((sc 3) 1), 8, .inl (sdf 3))), (((sf 3) 2), .inl (((sc 3) 2), 12, .inl (slf 3))), (((sf 3) 3), .inl (((sc 3) 3), 12, .inl (srf 3)))] sz) U)) (va_Qi (fun (r : Int32) (u : Unit) => r = 0) (fun (_ : Unit) (_ : State) => True) (va_A [((b 1), .inr (4, [.ref (f5 0), .ref (f5 1), .ref (f5 2), .ref (f5 3), .int 0, .int 0])), ((f5 0), .inr (6, [.ref (f7 0), .ref (f7 1), .int 0, .int 0, .int 0, .int 0, .long 0, .int 0])), ((f4 0), .inl (c4, 1000, .inl (fun _ => 0))), ((b 7), .inr (0, [.int 0, .ref (fU 1), .int 0, .ref (fU 3), .int 0, .ref (fU 5), .ref (fU 6), .ref (fU 7), .int 0, .ref (fU 9), .ref (fU 10), .ref (fU 11), .ref (fU 12), .ref (fU 13)])), ((b 9), .inr (2, [.ref ((sf 3) 0), .ref ((sf 3) 1), .ref ((sf 3) 2), .ref ((sf 3) 3), .ref ((sf 3) 4), .ref ((sf 3) 5)])), (((sf 3) 0), .inl (((sc 3) 0), 24, .inl (spf 3))), (((sf 3) 1), .inl (((sc 3) 1), 8, .inl (sdf 3))), (((sf 3) 2), .inl (((sc 3) 2), 12, .inl (slf 3))), (((sf 3) 3), .inl (((sc 3) 3), 12, .inl (srf 3)))] sz)) 0 0 (va_A [((b 1), .inr (4, [.ref (f5 0), .ref (f5 1), .ref (f5 2), .ref (f5 3), .int 0, .int 0])), ((f5 0), .inr (6, [.ref (f7 0), .ref (f7 1), .int 0, .int 0, .int 0, .int 0, .long 0, .int 0])), ((f4 0), .inl (c4, 1000, .inl (fun _ => 0))), ((b 7), .inr (0, [.int 0, .ref (fU 1), .int 0, .ref (fU 3), .int 0, .ref (fU 5), .ref (fU 6), .ref (fU 7), .int 0, .ref (fU 9), .ref (fU 10), .ref (fU 11), .ref (fU 12), .ref (fU 13)])), ((b 9), .inr (2, [.ref ((sf 3) 0), .ref ((sf 3) 1), .ref ((sf 3) 2), .ref ((sf 3) 3), .ref ((sf 3) 4), .ref ((sf 3) 5)])), (((sf 3) 0), .inl (((sc 3) 0), 24, .inl (spf 3))), (((sf 3) 1), .inl (((sc 3) 1), 8, .inl (sdf 3))), (((sf 3) 2), .inl (((sc 3) 2), 12, .inl (slf 3))), (((sf 3) 3), .inl (((sc 3) 3), 12, .inl (srf 3)))] sz) := by
  refine Met.ofW (cc := cX5_read) (maxL := 6) (ret := (some .int)) (by decide) rfl ?_
  intro p e s m args below meth c s₁ B hml hv
  obtain ⟨rfl, hsz, hP, hK, hD0, hE⟩ := hv
  have hx := B.exec
  have hb := B.bytes
  have hr := B.returns
  have hts0 := atoms_spec (ws := (.code yX5_read cX5_read 6 (some .int) :: TBL)) B.pre
  have hts := fun (w : Cond) (h : w ∈ TBL) => hts0 w (List.mem_cons_of_mem _ h)
  have hown : s.vm.findClass RX5 = some m.cls := findClass_of_methodNamed B.named
  have hlocks := B.notSynchronized
  have hN := hE.1
  subst hsz
  have hD := hD0.self (sz := s.heap.size)
  generalize hAe : va_A [((b 1), .inr (4, [.ref (f5 0), .ref (f5 1), .ref (f5 2), .ref (f5 3), .int 0, .int 0])), ((f5 0), .inr (6, [.ref (f7 0), .ref (f7 1), .int 0, .int 0, .int 0, .int 0, .long 0, .int 0])), ((f4 0), .inl (c4, 1000, .inl (fun _ => 0))), ((b 7), .inr (0, [.int 0, .ref (fU 1), .int 0, .ref (fU 3), .int 0, .ref (fU 5), .ref (fU 6), .ref (fU 7), .int 0, .ref (fU 9), .ref (fU 10), .ref (fU 11), .ref (fU 12), .ref (fU 13)])), ((b 9), .inr (2, [.ref ((sf 3) 0), .ref ((sf 3) 1), .ref ((sf 3) 2), .ref ((sf 3) 3), .ref ((sf 3) 4), .ref ((sf 3) 5)])), (((sf 3) 0), .inl (((sc 3) 0), 24, .inl (spf 3))), (((sf 3) 1), .inl (((sc 3) 1), 8, .inl (sdf 3))), (((sf 3) 2), .inl (((sc 3) 2), 12, .inl (slf 3))), (((sf 3) 3), .inl (((sc 3) 3), 12, .inl (srf 3)))] s.heap.size = A at hD hE ⊢
  have hA : ∀ q : Nat, s.heap.size ≤ q → A q := fun q h => by rw [← hAe]; exact Or.inr h
  have hS : va_S A s.heap s.heap [] := va_S.rf
  have hP : va_P (dC, dI) vwCl [((b 1), .inr (4, [.ref (f5 0), .ref (f5 1), .ref (f5 2), .ref (f5 3), .int 0, .int 0])), ((f5 0), .inr (6, [.ref (f7 0), .ref (f7 1), .int 0, .int 0, .int 0, .int 0, .long 0, .int 0])), ((f4 0), .inl (c4, 1000, .inl (fun _ => 0))), ((b 7), .inr (0, [.int 0, .ref (fU 1), .int 0, .ref (fU 3), .int 0, .ref (fU 5), .ref (fU 6), .ref (fU 7), .int 0, .ref (fU 9), .ref (fU 10), .ref (fU 11), .ref (fU 12), .ref (fU 13)])), ((b 9), .inr (2, [.ref ((sf 3) 0), .ref ((sf 3) 1), .ref ((sf 3) 2), .ref ((sf 3) 3), .ref ((sf 3) 4), .ref ((sf 3) 5)])), (((sf 3) 0), .inl (((sc 3) 0), 24, .inl (spf 3))), (((sf 3) 1), .inl (((sc 3) 1), 8, .inl (sdf 3))), (((sf 3) 2), .inl (((sc 3) 2), 12, .inl (slf 3))), (((sf 3) 3), .inl (((sc 3) 3), 12, .inl (srf 3)))] s.heap := hP
  have hl := lv_entry ([.ref (b 1), .ref (f4 0), .int 0, .ref (b 7), .ref (b 9)]) (n := 6) (Nat.le_of_ble_eq_true rfl)
  rw [lg_entry_eq]
  generalize (lg_sl ([.ref (b 1), .ref (f4 0), .int 0, .ref (b 7), .ref (b 9)]) ++ List.replicate (6 - (lg_sl ([.ref (b 1), .ref (f4 0), .int 0, .ref (b 7), .ref (b 9)])).length) Slot.unset).toArray = ls at hl ⊢
  have hl : lv_has ls 6 [(0, .ref (b 1)), (1, .ref (f4 0)), (2, .int 0), (3, .ref (b 7)), (4, .ref (b 9))] := hl
  refine lv_aload_n hx hb dX5_read_0 rfl (lv_at hl 3 rfl) ?_
  have hPc := hP.sub (ws' := [((b 7), .inr (0, [.int 0, .ref (fU 1), .int 0, .ref (fU 3), .int 0, .ref (fU 5), .ref (fU 6), .ref (fU 7), .int 0, .ref (fU 9), .ref (fU 10), .ref (fU 11), .ref (fU 12), .ref (fU 13)]))]) [3] rfl
  have hKc := hK.sub (tys' := []) [] rfl
  have hDc := hD.sub (ws' := [((b 7), .inr (0, [.int 0, .ref (fU 1), .int 0, .ref (fU 3), .int 0, .ref (fU 5), .ref (fU 6), .ref (fU 7), .int 0, .ref (fU 9), .ref (fU 10), .ref (fU 11), .ref (fU 12), .ref (fU 13)]))]) [3] (by decide) rfl
  have hFc := va_free (wc := [((b 7), .inr (0, [.int 0, .ref (fU 1), .int 0, .ref (fU 3), .int 0, .ref (fU 5), .ref (fU 6), .ref (fU 7), .int 0, .ref (fU 9), .ref (fU 10), .ref (fU 11), .ref (fU 12), .ref (fU 13)]))]) hD hS hA [3] rfl
  refine va_callv (va_runVN (As := []) (rest := []) ⟨hx, hb, hml, hown, hts⟩ (c_hc l dC dI g s.heap.size ((b 7)) (fU) ) ⟨va_cnB 0 hts (gwC qw_306) rfl rfl rfl (nm_10 hN) (hts (.initialized RX1) qw_202) (by decide +kernel) ⟨Nat.le_of_ble_eq_true rfl, Nat.le_of_ble_eq_true rfl⟩, (hts (.instanceMethod yX1_clear) qw_307), (hts (.selects RX1 yX1_clear yX1_clear) qw_308)⟩ ⟨fun a U g9 mk q => ⟨q.1, q.2.1, q.2.2.1, va_K.moved (u := U) (U := U.calling g9 mk a) (Vm.Alike.refl U.vm) q.2.2.2.1, q.2.2.2.2.1, Ev.bl q.2.2.2.2.2⟩, va_recv hK hP (ci := 0) (q0 := 3) rfl rfl, fun U hU hW => ⟨rfl, by rw [hU], by rw [hU]; exact hPc, va_K.moved hW.alike hKc, hDc.weaken (fun _ _ _ _ => trivial), hE.go hS hFc hU hW⟩⟩ rfl rfl hl.1 rfl (lv_room (Nat.le_of_ble_eq_true rfl)) dX5_read_1 ⟨Nat.le_of_ble_eq_true rfl, Nat.le_of_ble_eq_true rfl⟩) hS (fun q _ h => hFc q h) hFc (fun u1 t H1 locs ht hvm h_u1 hB hz1 hk1 hS => ?_)
  obtain ⟨hP1, hK1, hD1⟩ := hB
  rw [ht] at hP1
  have hK1 := va_K.moved hvm.symm hK1
  obtain ⟨hP, hD⟩ := va_join (wr := [((b 1), .inr (4, [.ref (f5 0), .ref (f5 1), .ref (f5 2), .ref (f5 3), .int 0, .int 0])), ((f5 0), .inr (6, [.ref (f7 0), .ref (f7 1), .int 0, .int 0, .int 0, .int 0, .long 0, .int 0])), ((f4 0), .inl (c4, 1000, .inl (fun _ => 0))), ((b 9), .inr (2, [.ref ((sf 3) 0), .ref ((sf 3) 1), .ref ((sf 3) 2), .ref ((sf 3) 3), .ref ((sf 3) 4), .ref ((sf 3) 5)])), (((sf 3) 0), .inl (((sc 3) 0), 24, .inl (spf 3))), (((sf 3) 1), .inl (((sc 3) 1), 8, .inl (sdf 3))), (((sf 3) 2), .inl (((sc 3) 2), 12, .inl (slf 3))), (((sf 3) 3), .inl (((sc 3) 3), 12, .inl (srf 3)))]) (w1 := [((b 7), .inr (0, [.int 0, .ref (fU 1), .int 0, .ref (fU 3), .int 0, .ref (fU 5), .ref (fU 6), .ref (fU 7), .int 0, .ref (fU 9), .ref (fU 10), .ref (fU 11), .ref (fU 12), .ref (fU 13)]))]) hP hD [3] [0, 1, 2, 4, 5, 6, 7, 8] rfl rfl (by decide) (by decide) hk1 hFc hP1 hD1
  have hK := hK.app hK1
  have hK : va_K (dC, dI) vwCl [(c4, .byte), (((sc 3) 0), .int), (((sc 3) 1), .int), (((sc 3) 2), .int), (((sc 3) 3), .int)] s := hK
  generalize H1 = H at hP hS ⊢
  have hP : va_P (dC, dI) vwCl [((b 1), .inr (4, [.ref (f5 0), .ref (f5 1), .ref (f5 2), .ref (f5 3), .int 0, .int 0])), ((f5 0), .inr (6, [.ref (f7 0), .ref (f7 1), .int 0, .int 0, .int 0, .int 0, .long 0, .int 0])), ((f4 0), .inl (c4, 1000, .inl (fun _ => 0))), ((b 9), .inr (2, [.ref ((sf 3) 0), .ref ((sf 3) 1), .ref ((sf 3) 2), .ref ((sf 3) 3), .ref ((sf 3) 4), .ref ((sf 3) 5)])), (((sf 3) 0), .inl (((sc 3) 0), 24, .inl (spf 3))), (((sf 3) 1), .inl (((sc 3) 1), 8, .inl (sdf 3))), (((sf 3) 2), .inl (((sc 3) 2), 12, .inl (slf 3))), (((sf 3) 3), .inl (((sc 3) 3), 12, .inl (srf 3))), ((b 7), .inr (0, [.int 0, .ref (fU 1), .int 0, .ref (fU 3), .int 0, .ref (fU 5), .ref (fU 6), .ref (fU 7), .int 0, .ref (fU 9), .ref (fU 10), .ref (fU 11), .ref (fU 12), .ref (fU 13)]))] H := hP
  have hD : va_D A [((b 1), .inr (4, [.ref (f5 0), .ref (f5 1), .ref (f5 2), .ref (f5 3), .int 0, .int 0])), ((f5 0), .inr (6, [.ref (f7 0), .ref (f7 1), .int 0, .int 0, .int 0, .int 0, .long 0, .int 0])), ((f4 0), .inl (c4, 1000, .inl (fun _ => 0))), ((b 9), .inr (2, [.ref ((sf 3) 0), .ref ((sf 3) 1), .ref ((sf 3) 2), .ref ((sf 3) 3), .ref ((sf 3) 4), .ref ((sf 3) 5)])), (((sf 3) 0), .inl (((sc 3) 0), 24, .inl (spf 3))), (((sf 3) 1), .inl (((sc 3) 1), 8, .inl (sdf 3))), (((sf 3) 2), .inl (((sc 3) 2), 12, .inl (slf 3))), (((sf 3) 3), .inl (((sc 3) 3), 12, .inl (srf 3))), ((b 7), .inr (0, [.int 0, .ref (fU 1), .int 0, .ref (fU 3), .int 0, .ref (fU 5), .ref (fU 6), .ref (fU 7), .int 0, .ref (fU 9), .ref (fU 10), .ref (fU 11), .ref (fU 12), .ref (fU 13)]))] := hD
  refine W.widen (k := 0) (n := 0) (Nat.le_of_ble_eq_true rfl) (Nat.le_of_ble_eq_true rfl) ?_
  refine lv_aload hx hb dX5_read_4 (lv_at hl 4 rfl) ?_
  have hPc := hP.sub (ws' := [((b 9), .inr (2, [.ref ((sf 3) 0), .ref ((sf 3) 1), .ref ((sf 3) 2), .ref ((sf 3) 3), .ref ((sf 3) 4), .ref ((sf 3) 5)])), (((sf 3) 0), .inl (((sc 3) 0), 24, .inl (spf 3))), (((sf 3) 1), .inl (((sc 3) 1), 8, .inl (sdf 3))), (((sf 3) 2), .inl (((sc 3) 2), 12, .inl (slf 3))), (((sf 3) 3), .inl (((sc 3) 3), 12, .inl (srf 3)))]) [3, 4, 5, 6, 7] rfl
  have hKc := hK.sub (tys' := [(((sc 3) 0), .int), (((sc 3) 1), .int), (((sc 3) 2), .int), (((sc 3) 3), .int)]) [1, 2, 3, 4] rfl
  have hDc := hD.sub (ws' := [((b 9), .inr (2, [.ref ((sf 3) 0), .ref ((sf 3) 1), .ref ((sf 3) 2), .ref ((sf 3) 3), .ref ((sf 3) 4), .ref ((sf 3) 5)])), (((sf 3) 0), .inl (((sc 3) 0), 24, .inl (spf 3))), (((sf 3) 1), .inl (((sc 3) 1), 8, .inl (sdf 3))), (((sf 3) 2), .inl (((sc 3) 2), 12, .inl (slf 3))), (((sf 3) 3), .inl (((sc 3) 3), 12, .inl (srf 3)))]) [3, 4, 5, 6, 7] (by decide) rfl
  have hFc := va_free (wc := [((b 9), .inr (2, [.ref ((sf 3) 0), .ref ((sf 3) 1), .ref ((sf 3) 2), .ref ((sf 3) 3), .ref ((sf 3) 4), .ref ((sf 3) 5)])), (((sf 3) 0), .inl (((sc 3) 0), 24, .inl (spf 3))), (((sf 3) 1), .inl (((sc 3) 1), 8, .inl (sdf 3))), (((sf 3) 2), .inl (((sc 3) 2), 12, .inl (slf 3))), (((sf 3) 3), .inl (((sc 3) 3), 12, .inl (srf 3)))]) hD hS hA [3, 4, 5, 6, 7] rfl
  refine va_callv (va_runVN (As := []) (rest := []) ⟨hx, hb, hml, hown, hts⟩ (c_clr l dC dI g H.size ((b 9)) ((sf 3)) ((sc 3)) ((spf 3)) ((sdf 3)) ((slf 3)) ((srf 3)) ) ⟨va_cnB 0 hts (gwC qw_164) rfl rfl rfl (nm_11 hN) (hts (.initialized RX3) qw_165) (by decide +kernel) ⟨Nat.le_of_ble_eq_true rfl, Nat.le_of_ble_eq_true rfl⟩, (hts (.instanceMethod yX3_clear) qw_167), (hts (.selects RX3 yX3_clear yX3_clear) qw_168)⟩ ⟨fun a U g9 mk q => ⟨q.1, q.2.1, q.2.2.1, va_K.moved (u := U) (U := U.calling g9 mk a) (Vm.Alike.refl U.vm) q.2.2.2.1, q.2.2.2.2.1, Ev.bl q.2.2.2.2.2⟩, va_recv hK hP (ci := 2) (q0 := 3) rfl rfl, fun U hU hW => ⟨rfl, by rw [hU], by rw [hU]; exact hPc, va_K.moved hW.alike hKc, hDc.weaken (fun _ _ _ _ => trivial), hE.go hS hFc hU hW⟩⟩ rfl rfl hl.1 rfl (lv_room (Nat.le_of_ble_eq_true rfl)) dX5_read_6 ⟨Nat.le_of_ble_eq_true rfl, Nat.le_of_ble_eq_true rfl⟩) hS (fun q _ h => hFc q h) hFc (fun u3 t H1 locs ht hvm h_u3 hB hz1 hk1 hS => ?_)
  obtain ⟨pf1_5, df1_6, lf1_7, rf1_8⟩ := u3
  obtain ⟨hP1, hK1, hD1⟩ := hB
  rw [ht] at hP1
  have hK1 := va_K.moved hvm.symm hK1
  obtain ⟨hP, hD⟩ := va_join (wr := [((b 1), .inr (4, [.ref (f5 0), .ref (f5 1), .ref (f5 2), .ref (f5 3), .int 0, .int 0])), ((f5 0), .inr (6, [.ref (f7 0), .ref (f7 1), .int 0, .int 0, .int 0, .int 0, .long 0, .int 0])), ((f4 0), .inl (c4, 1000, .inl (fun _ => 0))), ((b 7), .inr (0, [.int 0, .ref (fU 1), .int 0, .ref (fU 3), .int 0, .ref (fU 5), .ref (fU 6), .ref (fU 7), .int 0, .ref (fU 9), .ref (fU 10), .ref (fU 11), .ref (fU 12), .ref (fU 13)]))]) (w1 := [((b 9), .inr (2, [.ref ((sf 3) 0), .ref ((sf 3) 1), .ref ((sf 3) 2), .ref ((sf 3) 3), .ref ((sf 3) 4), .ref ((sf 3) 5)])), (((sf 3) 0), .inl (((sc 3) 0), 24, .inl pf1_5)), (((sf 3) 1), .inl (((sc 3) 1), 8, .inl df1_6)), (((sf 3) 2), .inl (((sc 3) 2), 12, .inl lf1_7)), (((sf 3) 3), .inl (((sc 3) 3), 12, .inl rf1_8))]) hP hD [3, 4, 5, 6, 7] [0, 1, 2, 8] rfl rfl (by decide) (by decide) hk1 hFc hP1 hD1
  have hK := hK.app hK1
  have hK : va_K (dC, dI) vwCl [(c4, .byte), (((sc 3) 0), .int), (((sc 3) 1), .int), (((sc 3) 2), .int), (((sc 3) 3), .int)] s := hK
  generalize H1 = H at hP hS ⊢
  have hP : va_P (dC, dI) vwCl [((b 1), .inr (4, [.ref (f5 0), .ref (f5 1), .ref (f5 2), .ref (f5 3), .int 0, .int 0])), ((f5 0), .inr (6, [.ref (f7 0), .ref (f7 1), .int 0, .int 0, .int 0, .int 0, .long 0, .int 0])), ((f4 0), .inl (c4, 1000, .inl (fun _ => 0))), ((b 7), .inr (0, [.int 0, .ref (fU 1), .int 0, .ref (fU 3), .int 0, .ref (fU 5), .ref (fU 6), .ref (fU 7), .int 0, .ref (fU 9), .ref (fU 10), .ref (fU 11), .ref (fU 12), .ref (fU 13)])), ((b 9), .inr (2, [.ref ((sf 3) 0), .ref ((sf 3) 1), .ref ((sf 3) 2), .ref ((sf 3) 3), .ref ((sf 3) 4), .ref ((sf 3) 5)])), (((sf 3) 0), .inl (((sc 3) 0), 24, .inl pf1_5)), (((sf 3) 1), .inl (((sc 3) 1), 8, .inl df1_6)), (((sf 3) 2), .inl (((sc 3) 2), 12, .inl lf1_7)), (((sf 3) 3), .inl (((sc 3) 3), 12, .inl rf1_8))] H := hP
  have hD : va_D A [((b 1), .inr (4, [.ref (f5 0), .ref (f5 1), .ref (f5 2), .ref (f5 3), .int 0, .int 0])), ((f5 0), .inr (6, [.ref (f7 0), .ref (f7 1), .int 0, .int 0, .int 0, .int 0, .long 0, .int 0])), ((f4 0), .inl (c4, 1000, .inl (fun _ => 0))), ((b 7), .inr (0, [.int 0, .ref (fU 1), .int 0, .ref (fU 3), .int 0, .ref (fU 5), .ref (fU 6), .ref (fU 7), .int 0, .ref (fU 9), .ref (fU 10), .ref (fU 11), .ref (fU 12), .ref (fU 13)])), ((b 9), .inr (2, [.ref ((sf 3) 0), .ref ((sf 3) 1), .ref ((sf 3) 2), .ref ((sf 3) 3), .ref ((sf 3) 4), .ref ((sf 3) 5)])), (((sf 3) 0), .inl (((sc 3) 0), 24, .inl pf1_5)), (((sf 3) 1), .inl (((sc 3) 1), 8, .inl df1_6)), (((sf 3) 2), .inl (((sc 3) 2), 12, .inl lf1_7)), (((sf 3) 3), .inl (((sc 3) 3), 12, .inl rf1_8))] := hD
  refine W.widen (k := 0) (n := 0) (Nat.le_of_ble_eq_true rfl) (Nat.le_of_ble_eq_true rfl) ?_
  refine lv_aload_n hx hb dX5_read_9 rfl (lv_at hl 0 rfl) ?_
  refine lv_iconst (v := 0) hx hb dX5_read_10 (by decide) ?_
  refine va_put (D := (dC, dI)) (ci := 4) (v := .int 0) (ty := .int) (C := RX5) (T := TX5) (N := 6) hx hb hts inlX5 tyX5 tyX5_ok nmX5 hown hK hP hD hS 0 rfl rfl 4 (by decide) (hts (.fieldLink RX5 37 "ClosedUntil$TextReader" "nameCount" "I") qw_309) (fun _ h9 => h9) rfl (by decide +kernel) rfl rfl (Nat.le_of_ble_eq_true rfl) dX5_read_11 (fun H locs hP hD hS => ?_)
  have hP : va_P (dC, dI) vwCl [((b 1), .inr (4, [.ref (f5 0), .ref (f5 1), .ref (f5 2), .ref (f5 3), .int 0, .int 0])), ((f5 0), .inr (6, [.ref (f7 0), .ref (f7 1), .int 0, .int 0, .int 0, .int 0, .long 0, .int 0])), ((f4 0), .inl (c4, 1000, .inl (fun _ => 0))), ((b 7), .inr (0, [.int 0, .ref (fU 1), .int 0, .ref (fU 3), .int 0, .ref (fU 5), .ref (fU 6), .ref (fU 7), .int 0, .ref (fU 9), .ref (fU 10), .ref (fU 11), .ref (fU 12), .ref (fU 13)])), ((b 9), .inr (2, [.ref ((sf 3) 0), .ref ((sf 3) 1), .ref ((sf 3) 2), .ref ((sf 3) 3), .ref ((sf 3) 4), .ref ((sf 3) 5)])), (((sf 3) 0), .inl (((sc 3) 0), 24, .inl pf1_5)), (((sf 3) 1), .inl (((sc 3) 1), 8, .inl df1_6)), (((sf 3) 2), .inl (((sc 3) 2), 12, .inl lf1_7)), (((sf 3) 3), .inl (((sc 3) 3), 12, .inl rf1_8))] H := hP
  have hD : va_D A [((b 1), .inr (4, [.ref (f5 0), .ref (f5 1), .ref (f5 2), .ref (f5 3), .int 0, .int 0])), ((f5 0), .inr (6, [.ref (f7 0), .ref (f7 1), .int 0, .int 0, .int 0, .int 0, .long 0, .int 0])), ((f4 0), .inl (c4, 1000, .inl (fun _ => 0))), ((b 7), .inr (0, [.int 0, .ref (fU 1), .int 0, .ref (fU 3), .int 0, .ref (fU 5), .ref (fU 6), .ref (fU 7), .int 0, .ref (fU 9), .ref (fU 10), .ref (fU 11), .ref (fU 12), .ref (fU 13)])), ((b 9), .inr (2, [.ref ((sf 3) 0), .ref ((sf 3) 1), .ref ((sf 3) 2), .ref ((sf 3) 3), .ref ((sf 3) 4), .ref ((sf 3) 5)])), (((sf 3) 0), .inl (((sc 3) 0), 24, .inl pf1_5)), (((sf 3) 1), .inl (((sc 3) 1), 8, .inl df1_6)), (((sf 3) 2), .inl (((sc 3) 2), 12, .inl lf1_7)), (((sf 3) 3), .inl (((sc 3) 3), 12, .inl rf1_8))] := hD
  refine lv_aload_n hx hb dX5_read_14 rfl (lv_at hl 0 rfl) ?_
  refine lv_iconst (v := (-1)) hx hb dX5_read_15 (by decide) ?_
  refine va_put (D := (dC, dI)) (ci := 4) (v := .int (-1)) (ty := .int) (C := RX5) (T := TX5) (N := 6) hx hb hts inlX5 tyX5 tyX5_ok nmX5 hown hK hP hD hS 0 rfl rfl 5 (by decide) (hts (.fieldLink RX5 41 "ClosedUntil$TextReader" "fault" "I") qw_310) (fun _ h9 => h9) rfl (by decide +kernel) rfl rfl (Nat.le_of_ble_eq_true rfl) dX5_read_16 (fun H locs hP hD hS => ?_)
  have hP : va_P (dC, dI) vwCl [((b 1), .inr (4, [.ref (f5 0), .ref (f5 1), .ref (f5 2), .ref (f5 3), .int 0, .int (-1)])), ((f5 0), .inr (6, [.ref (f7 0), .ref (f7 1), .int 0, .int 0, .int 0, .int 0, .long 0, .int 0])), ((f4 0), .inl (c4, 1000, .inl (fun _ => 0))), ((b 7), .inr (0, [.int 0, .ref (fU 1), .int 0, .ref (fU 3), .int 0, .ref (fU 5), .ref (fU 6), .ref (fU 7), .int 0, .ref (fU 9), .ref (fU 10), .ref (fU 11), .ref (fU 12), .ref (fU 13)])), ((b 9), .inr (2, [.ref ((sf 3) 0), .ref ((sf 3) 1), .ref ((sf 3) 2), .ref ((sf 3) 3), .ref ((sf 3) 4), .ref ((sf 3) 5)])), (((sf 3) 0), .inl (((sc 3) 0), 24, .inl pf1_5)), (((sf 3) 1), .inl (((sc 3) 1), 8, .inl df1_6)), (((sf 3) 2), .inl (((sc 3) 2), 12, .inl lf1_7)), (((sf 3) 3), .inl (((sc 3) 3), 12, .inl rf1_8))] H := hP
  have hD : va_D A [((b 1), .inr (4, [.ref (f5 0), .ref (f5 1), .ref (f5 2), .ref (f5 3), .int 0, .int (-1)])), ((f5 0), .inr (6, [.ref (f7 0), .ref (f7 1), .int 0, .int 0, .int 0, .int 0, .long 0, .int 0])), ((f4 0), .inl (c4, 1000, .inl (fun _ => 0))), ((b 7), .inr (0, [.int 0, .ref (fU 1), .int 0, .ref (fU 3), .int 0, .ref (fU 5), .ref (fU 6), .ref (fU 7), .int 0, .ref (fU 9), .ref (fU 10), .ref (fU 11), .ref (fU 12), .ref (fU 13)])), ((b 9), .inr (2, [.ref ((sf 3) 0), .ref ((sf 3) 1), .ref ((sf 3) 2), .ref ((sf 3) 3), .ref ((sf 3) 4), .ref ((sf 3) 5)])), (((sf 3) 0), .inl (((sc 3) 0), 24, .inl pf1_5)), (((sf 3) 1), .inl (((sc 3) 1), 8, .inl df1_6)), (((sf 3) 2), .inl (((sc 3) 2), 12, .inl lf1_7)), (((sf 3) 3), .inl (((sc 3) 3), 12, .inl rf1_8))] := hD
  refine lv_aload_n hx hb dX5_read_19 rfl (lv_at hl 0 rfl) ?_
  refine va_get (D := (dC, dI)) (ci := 4) (v := .ref (f5 0)) (C := RX5) (T := TX5) (N := 6) hx hb hts inlX5 hown hK hP 0 rfl rfl 0 (by decide) (hts (.fieldLink RX5 12 "ClosedUntil$TextReader" "tokens" "LClosedUntil$Tokens;") qw_156) (fun _ h9 => h9) rfl dX5_read_20 ?_
  refine lv_aload_n hx hb dX5_read_23 rfl (lv_at hl 1 rfl) ?_
  refine lv_iload_n hx hb dX5_read_24 rfl (lv_at hl 2 rfl) ?_
  have hPc := hP.sub (ws' := [((f5 0), .inr (6, [.ref (f7 0), .ref (f7 1), .int 0, .int 0, .int 0, .int 0, .long 0, .int 0])), ((f4 0), .inl (c4, 1000, .inl (fun _ => 0)))]) [1, 2] rfl
  have hKc := hK.sub (tys' := [(c4, .byte)]) [0] rfl
  have hDc := hD.sub (ws' := [((f5 0), .inr (6, [.ref (f7 0), .ref (f7 1), .int 0, .int 0, .int 0, .int 0, .long 0, .int 0])), ((f4 0), .inl (c4, 1000, .inl (fun _ => 0)))]) [1, 2] (by decide) rfl
  have hFc := va_free (wc := [((f5 0), .inr (6, [.ref (f7 0), .ref (f7 1), .int 0, .int 0, .int 0, .int 0, .long 0, .int 0])), ((f4 0), .inl (c4, 1000, .inl (fun _ => 0)))]) hD hS hA [1, 2] rfl
  refine va_callv (va_runVN (As := [.ref (f4 0), .int 0]) (rest := []) ⟨hx, hb, hml, hown, hts⟩ (c_sta l dC dI g H.size ((f5 0)) (f7) ((f4 0)) (c4) ) ⟨va_cnB 2 hts (gwC qw_311) rfl rfl rfl (nm_12 hN) (hts (.initialized RX7) qw_148) (by decide +kernel) ⟨Nat.le_of_ble_eq_true rfl, Nat.le_of_ble_eq_true rfl⟩, (hts (.instanceMethod yX7_start) qw_312), (hts (.selects RX7 yX7_start yX7_start) qw_313)⟩ ⟨fun a U g9 mk q => ⟨q.1, q.2.1, q.2.2.1, va_K.moved (u := U) (U := U.calling g9 mk a) (Vm.Alike.refl U.vm) q.2.2.2.1, q.2.2.2.2.1, Ev.bl q.2.2.2.2.2⟩, va_recv hK hP (ci := 6) (q0 := 1) rfl rfl, fun U hU hW => ⟨rfl, by rw [hU], by rw [hU]; exact hPc, va_K.moved hW.alike hKc, hDc.weaken (fun _ _ _ _ => trivial), hE.go hS hFc hU hW⟩⟩ rfl rfl hl.1 rfl (lv_room (Nat.le_of_ble_eq_true rfl)) dX5_read_25 ⟨Nat.le_of_ble_eq_true rfl, Nat.le_of_ble_eq_true rfl⟩) hS (fun q _ h => hFc q h) hFc (fun u9 t H1 locs ht hvm h_u9 hB hz1 hk1 hS => ?_)
  obtain ⟨hP1, hK1, hD1⟩ := hB
  rw [ht] at hP1
  have hK1 := va_K.moved hvm.symm hK1
  obtain ⟨hP, hD⟩ := va_join (wr := [((b 1), .inr (4, [.ref (f5 0), .ref (f5 1), .ref (f5 2), .ref (f5 3), .int 0, .int (-1)])), ((b 7), .inr (0, [.int 0, .ref (fU 1), .int 0, .ref (fU 3), .int 0, .ref (fU 5), .ref (fU 6), .ref (fU 7), .int 0, .ref (fU 9), .ref (fU 10), .ref (fU 11), .ref (fU 12), .ref (fU 13)])), ((b 9), .inr (2, [.ref ((sf 3) 0), .ref ((sf 3) 1), .ref ((sf 3) 2), .ref ((sf 3) 3), .ref ((sf 3) 4), .ref ((sf 3) 5)])), (((sf 3) 0), .inl (((sc 3) 0), 24, .inl pf1_5)), (((sf 3) 1), .inl (((sc 3) 1), 8, .inl df1_6)), (((sf 3) 2), .inl (((sc 3) 2), 12, .inl lf1_7)), (((sf 3) 3), .inl (((sc 3) 3), 12, .inl rf1_8))]) (w1 := [((f5 0), .inr (6, [.ref (f7 0), .ref (f4 0), .int 0, .int 0, .int 15, .int 0, .long 0, .int 0]))]) hP hD [1, 2] [0, 3, 4, 5, 6, 7, 8] rfl rfl (by decide) (by decide) hk1 hFc hP1 hD1
  have hK := hK.app hK1
  have hK : va_K (dC, dI) vwCl [(c4, .byte), (((sc 3) 0), .int), (((sc 3) 1), .int), (((sc 3) 2), .int), (((sc 3) 3), .int)] s := hK
  generalize H1 = H at hP hS ⊢
  have hP : va_P (dC, dI) vwCl [((b 1), .inr (4, [.ref (f5 0), .ref (f5 1), .ref (f5 2), .ref (f5 3), .int 0, .int (-1)])), ((b 7), .inr (0, [.int 0, .ref (fU 1), .int 0, .ref (fU 3), .int 0, .ref (fU 5), .ref (fU 6), .ref (fU 7), .int 0, .ref (fU 9), .ref (fU 10), .ref (fU 11), .ref (fU 12), .ref (fU 13)])), ((b 9), .inr (2, [.ref ((sf 3) 0), .ref ((sf 3) 1), .ref ((sf 3) 2), .ref ((sf 3) 3), .ref ((sf 3) 4), .ref ((sf 3) 5)])), (((sf 3) 0), .inl (((sc 3) 0), 24, .inl pf1_5)), (((sf 3) 1), .inl (((sc 3) 1), 8, .inl df1_6)), (((sf 3) 2), .inl (((sc 3) 2), 12, .inl lf1_7)), (((sf 3) 3), .inl (((sc 3) 3), 12, .inl rf1_8)), ((f5 0), .inr (6, [.ref (f7 0), .ref (f4 0), .int 0, .int 0, .int 15, .int 0, .long 0, .int 0]))] H := hP
  have hD : va_D A [((b 1), .inr (4, [.ref (f5 0), .ref (f5 1), .ref (f5 2), .ref (f5 3), .int 0, .int (-1)])), ((b 7), .inr (0, [.int 0, .ref (fU 1), .int 0, .ref (fU 3), .int 0, .ref (fU 5), .ref (fU 6), .ref (fU 7), .int 0, .ref (fU 9), .ref (fU 10), .ref (fU 11), .ref (fU 12), .ref (fU 13)])), ((b 9), .inr (2, [.ref ((sf 3) 0), .ref ((sf 3) 1), .ref ((sf 3) 2), .ref ((sf 3) 3), .ref ((sf 3) 4), .ref ((sf 3) 5)])), (((sf 3) 0), .inl (((sc 3) 0), 24, .inl pf1_5)), (((sf 3) 1), .inl (((sc 3) 1), 8, .inl df1_6)), (((sf 3) 2), .inl (((sc 3) 2), 12, .inl lf1_7)), (((sf 3) 3), .inl (((sc 3) 3), 12, .inl rf1_8)), ((f5 0), .inr (6, [.ref (f7 0), .ref (f4 0), .int 0, .int 0, .int 15, .int 0, .long 0, .int 0]))] := hD
  refine W.widen (k := 0) (n := 0) (Nat.le_of_ble_eq_true rfl) (Nat.le_of_ble_eq_true rfl) ?_
  refine lv_iconst (v := 0) hx hb dX5_read_28 (by decide) ?_
  refine lv_istore (lv' := [(5, .int 0), (0, .ref (b 1)), (1, .ref (f4 0)), (2, .int 0), (3, .ref (b 7)), (4, .ref (b 9))]) hx hb dX5_read_29 hl (by decide) rfl (fun ls hl => ?_)
  refine lv_iload hx hb dX5_read_31 (lv_at hl 0 rfl) ?_
  refine lv_sipush (v := 1000) hx hb dX5_read_33 (by decide) ?_
  refine lv_icmp_ge (tgt := 170) hx hb dX5_read_36 (by decide) (fun c36_11 => by exfalso; exact absurd c36_11 (by decide)) (fun c36_11 => ?_)
  refine lv_aload_n hx hb dX5_read_39 rfl (lv_at hl 1 rfl) ?_
  refine va_get (D := (dC, dI)) (ci := 4) (v := .int (-1)) (C := RX5) (T := TX5) (N := 6) hx hb hts inlX5 hown hK hP 0 rfl rfl 5 (by decide) (hts (.fieldLink RX5 41 "ClosedUntil$TextReader" "fault" "I") qw_310) (fun _ h9 => h9) rfl dX5_read_40 ?_
  refine lv_iconst (v := (-1)) hx hb dX5_read_43 (by decide) ?_
  refine lv_icmp_ne (tgt := 170) hx hb dX5_read_44 (by decide) (fun c44_12 => by exfalso; exact absurd c44_12 (by decide)) (fun c44_12 => ?_)
  refine lv_aload_n hx hb dX5_read_47 rfl (lv_at hl 1 rfl) ?_
  refine va_get (D := (dC, dI)) (ci := 4) (v := .ref (f5 0)) (C := RX5) (T := TX5) (N := 6) hx hb hts inlX5 hown hK hP 0 rfl rfl 0 (by decide) (hts (.fieldLink RX5 12 "ClosedUntil$TextReader" "tokens" "LClosedUntil$Tokens;") qw_156) (fun _ h9 => h9) rfl dX5_read_48 ?_
  refine va_getN (D := (dC, dI)) (ci := 6) (v := .int 15) (C := RX7) (T := TX7) (N := 8) hx hb hts inlX7 hown hK hP 7 rfl rfl 4 (by decide) (va_Nw.use rfl (nf_2 hN)) (fun _ h9 => h9) rfl dX5_read_51 ?_
  refine lv_bipush (v := 15) hx hb dX5_read_54 (by decide) ?_
  refine lv_icmp_eq (tgt := 170) hx hb dX5_read_56 (by decide) (fun c56_13 => ?_) (fun c56_13 => by exfalso; exact absurd c56_13 (by decide))
  refine lv_aload_n hx hb dX5_read_170 rfl (lv_at hl 1 rfl) ?_
  refine va_get (D := (dC, dI)) (ci := 4) (v := .int (-1)) (C := RX5) (T := TX5) (N := 6) hx hb hts inlX5 hown hK hP 0 rfl rfl 5 (by decide) (hts (.fieldLink RX5 41 "ClosedUntil$TextReader" "fault" "I") qw_310) (fun _ h9 => h9) rfl dX5_read_171 ?_
  refine lv_iconst (v := (-1)) hx hb dX5_read_174 (by decide) ?_
  refine lv_icmp_ne (tgt := 183) hx hb dX5_read_175 (by decide) (fun c175_14 => by exfalso; exact absurd c175_14 (by decide)) (fun c175_14 => ?_)
  refine lv_iload hx hb dX5_read_178 (lv_at hl 0 rfl) ?_
  refine lv_goto (tgt := 190) hx hb dX5_read_180 (by decide) ?_
  refine W.widen (k := 0) (n := 0) (Nat.le_of_ble_eq_true rfl) (Nat.le_of_ble_eq_true rfl) ?_
  exact W.iret (v := 0) hx hb hr (fun t ht hW => ⟨⟨0, (), rfl, (rfl), trivial⟩, hS.F ht⟩) hS.2.2 dX5_read_190
set_option maxHeartbeats 4000000 in
set_option maxRecDepth 100000 in
theorem c_fa (l : Launch) (dC : Nat → ClassId) (dI : Nat → Nat → Nat) (g : Gv) (sz : Nat) (h0 : Nat) (f2 : Nat → Nat)  : Met l yX2_forgetAll (.code yX2_forgetAll cX2_forgetAll 1 none :: TBL) ({ frames := 0, cells := 0, slots := 0, locals := 0 }) (va_Pc [.ref h0] (fun U => U.heap.size = sz ∧ va_P (dC, dI) vwCl [(h0, .inr (1, [.ref (f2 0), .ref (f2 1), .ref (f2 2), .int 0]))] U.heap ∧ va_K (dC, dI) vwCl [] U ∧ va_D (fun _ => True) [(h0, .inr (1, [.ref (f2 0), .ref (f2 1), .ref (f2 2), .int 0]))] ∧ Ev g (va_A [(h0, .inr (1, [.ref (f2 0), .ref (f2 1), .ref (f2 2), .int 0]))] sz) U)) (va_Qv (fun (u : Unit) => True) (fun (u : Unit) (t : State) => va_P (dC, dI) vwCl [(h0, .inr (1, [.ref (f2 0), .ref (f2 1), .ref (f2 2), .int 0]))] t.heap ∧ va_K (dC, dI) vwCl [] t ∧ va_D (va_A [(h0, .inr (1, [.ref (f2 0), .ref (f2 1), .ref (f2 2), .int 0]))] sz) [(h0, .inr (1, [.ref (f2 0), .ref (f2 1), .ref (f2 2), .int 0]))]) (va_A [(h0, .inr (1, [.ref (f2 0), .ref (f2 1), .ref (f2 2), .int 0]))] sz)) 0 0 (va_A [(h0, .inr (1, [.ref (f2 0), .ref (f2 1), .ref (f2 2), .int 0]))] sz) := by
  refine Met.ofW (cc := cX2_forgetAll) (maxL := 1) (ret := none) (by decide) rfl ?_
  intro p e s m args below meth c s₁ B hml hv
  obtain ⟨rfl, hsz, hP, hK, hD0, hE⟩ := hv
  have hx := B.exec
  have hb := B.bytes
  have hr := B.returns
  have hts0 := atoms_spec (ws := (.code yX2_forgetAll cX2_forgetAll 1 none :: TBL)) B.pre
  have hts := fun (w : Cond) (h : w ∈ TBL) => hts0 w (List.mem_cons_of_mem _ h)
  have hown : s.vm.findClass RX2 = some m.cls := findClass_of_methodNamed B.named
  have hlocks := B.notSynchronized
  have hN := hE.1
  subst hsz
  have hD := hD0.self (sz := s.heap.size)
  generalize hAe : va_A [(h0, .inr (1, [.ref (f2 0), .ref (f2 1), .ref (f2 2), .int 0]))] s.heap.size = A at hD hE ⊢
  have hA : ∀ q : Nat, s.heap.size ≤ q → A q := fun q h => by rw [← hAe]; exact Or.inr h
  have hS : va_S A s.heap s.heap [] := va_S.rf
  have hP : va_P (dC, dI) vwCl [(h0, .inr (1, [.ref (f2 0), .ref (f2 1), .ref (f2 2), .int 0]))] s.heap := hP
  have hl := lv_entry ([.ref h0]) (n := 1) (Nat.le_of_ble_eq_true rfl)
  rw [lg_entry_eq]
  generalize (lg_sl ([.ref h0]) ++ List.replicate (1 - (lg_sl ([.ref h0])).length) Slot.unset).toArray = ls at hl ⊢
  have hl : lv_has ls 1 [(0, .ref h0)] := hl
  refine lv_aload_n hx hb dX2_forgetAll_0 rfl (lv_at hl 0 rfl) ?_
  refine lv_iconst (v := 0) hx hb dX2_forgetAll_1 (by decide) ?_
  refine va_put (D := (dC, dI)) (ci := 1) (v := .int 0) (ty := .int) (C := RX2) (T := TX2) (N := 4) hx hb hts inlX2 tyX2 tyX2_ok nmX2 hown hK hP hD hS 0 rfl rfl 3 (by decide) (hts (.fieldLink RX2 21 "ClosedUntil$Journal" "size" "I") qw_314) (fun _ h9 => h9) rfl (by decide +kernel) rfl rfl (Nat.le_of_ble_eq_true rfl) dX2_forgetAll_2 (fun H locs hP hD hS => ?_)
  have hP : va_P (dC, dI) vwCl [(h0, .inr (1, [.ref (f2 0), .ref (f2 1), .ref (f2 2), .int 0]))] H := hP
  have hD : va_D A [(h0, .inr (1, [.ref (f2 0), .ref (f2 1), .ref (f2 2), .int 0]))] := hD
  refine W.widen (k := 0) (n := 0) (Nat.le_of_ble_eq_true rfl) (Nat.le_of_ble_eq_true rfl) ?_
  have hP9 := hP.sub (ws' := [(h0, .inr (1, [.ref (f2 0), .ref (f2 1), .ref (f2 2), .int 0]))]) [0] rfl
  have hD9 := hD.sub (ws' := [(h0, .inr (1, [.ref (f2 0), .ref (f2 1), .ref (f2 2), .int 0]))]) [0] (by decide) rfl
  have hK9 := hK.sub (tys' := []) [] rfl
  exact W.vret hx hb hr (fun t ht hW => ⟨⟨(), rfl, (trivial), by rw [ht]; exact hP9, va_K.moved hW.alike hK9, hD9⟩, hS.F ht⟩) hS.2.2 dX2_forgetAll_5
set_option maxHeartbeats 4000000 in
set_option maxRecDepth 100000 in
theorem c_tw (l : Launch) (dC : Nat → ClassId) (dI : Nat → Nat → Nat) (g : Gv) (sz : Nat) (x0 : Nat) (b : Nat → Nat) (f4 : Nat → Nat) (c4 : ClassId) (f5 : Nat → Nat) (f7 : Nat → Nat) (f6 : Nat → Nat) (f2 : Nat → Nat) (cK : ClassId) (kf : Nat → Option Nat) (cZ : ClassId) (fT : Nat → Nat) (fU : Nat → Nat) (sa : Nat → Nat) (sf : Nat → Nat → Nat) (sc : Nat → Nat → ClassId) (spf : Nat → Nat → Int32) (sdf : Nat → Nat → Int32) (slf : Nat → Nat → Int32) (srf : Nat → Nat → Int32) (sga : Nat → Nat → Option Nat) (sgb : Nat → Nat → Option Nat) (rows : va_W)  : Met l yX8_takeWhatWasRead (.code yX8_takeWhatWasRead cX8_takeWhatWasRead 4 none :: TBL) ({ frames := 1, cells := 0, slots := 0, locals := 60 }) (va_Pc [.ref x0] (fun U => U.heap.size = sz ∧ va_P (dC, dI) vwCl [(x0, .inr (7, [.ref (b 0), .ref (b 1), .ref (b 2), .ref (b 3), .ref (b 4), .ref (b 5), .ref (b 6), .ref (b 7), .ref (b 8), .ref (b 9), .int 1])), ((b 3), .inr (1, [.ref (f2 0), .ref (f2 1), .ref (f2 2), .int 0])), ((b 5), .inl (cZ, 2, .inl (fun _ => 0)))] U.heap ∧ va_K (dC, dI) vwCl [(cZ, .boolean)] U ∧ va_D (fun _ => True) [(x0, .inr (7, [.ref (b 0), .ref (b 1), .ref (b 2), .ref (b 3), .ref (b 4), .ref (b 5), .ref (b 6), .ref (b 7), .ref (b 8), .ref (b 9), .int 1])), ((b 3), .inr (1, [.ref (f2 0), .ref (f2 1), .ref (f2 2), .int 0])), ((b 5), .inl (cZ, 2, .inl (fun _ => 0)))] ∧ Ev g (va_A [(x0, .inr (7, [.ref (b 0), .ref (b 1), .ref (b 2), .ref (b 3), .ref (b 4), .ref (b 5), .ref (b 6), .ref (b 7), .ref (b 8), .ref (b 9), .int 1])), ((b 3), .inr (1, [.ref (f2 0), .ref (f2 1), .ref (f2 2), .int 0])), ((b 5), .inl (cZ, 2, .inl (fun _ => 0)))] sz) U)) (va_Qv (fun (u : Unit) => True) (fun (_ : Unit) (_ : State) => True) (va_A [(x0, .inr (7, [.ref (b 0), .ref (b 1), .ref (b 2), .ref (b 3), .ref (b 4), .ref (b 5), .ref (b 6), .ref (b 7), .ref (b 8), .ref (b 9), .int 1])), ((b 3), .inr (1, [.ref (f2 0), .ref (f2 1), .ref (f2 2), .int 0])), ((b 5), .inl (cZ, 2, .inl (fun _ => 0)))] sz)) 0 0 (va_A [(x0, .inr (7, [.ref (b 0), .ref (b 1), .ref (b 2), .ref (b 3), .ref (b 4), .ref (b 5), .ref (b 6), .ref (b 7), .ref (b 8), .ref (b 9), .int 1])), ((b 3), .inr (1, [.ref (f2 0), .ref (f2 1), .ref (f2 2), .int 0])), ((b 5), .inl (cZ, 2, .inl (fun _ => 0)))] sz) := by
  refine Met.ofW (cc := cX8_takeWhatWasRead) (maxL := 4) (ret := none) (by decide) rfl ?_
  intro p e s m args below meth c s₁ B hml hv
  obtain ⟨rfl, hsz, hP, hK, hD0, hE⟩ := hv
  have hx := B.exec
  have hb := B.bytes
  have hr := B.returns
  have hts0 := atoms_spec (ws := (.code yX8_takeWhatWasRead cX8_takeWhatWasRead 4 none :: TBL)) B.pre
  have hts := fun (w : Cond) (h : w ∈ TBL) => hts0 w (List.mem_cons_of_mem _ h)
  have hown : s.vm.findClass RX8 = some m.cls := findClass_of_methodNamed B.named
  have hlocks := B.notSynchronized
  have hN := hE.1
  subst hsz
  have hD := hD0.self (sz := s.heap.size)
  generalize hAe : va_A [(x0, .inr (7, [.ref (b 0), .ref (b 1), .ref (b 2), .ref (b 3), .ref (b 4), .ref (b 5), .ref (b 6), .ref (b 7), .ref (b 8), .ref (b 9), .int 1])), ((b 3), .inr (1, [.ref (f2 0), .ref (f2 1), .ref (f2 2), .int 0])), ((b 5), .inl (cZ, 2, .inl (fun _ => 0)))] s.heap.size = A at hD hE ⊢
  have hA : ∀ q : Nat, s.heap.size ≤ q → A q := fun q h => by rw [← hAe]; exact Or.inr h
  have hS : va_S A s.heap s.heap [] := va_S.rf
  have hP : va_P (dC, dI) vwCl [(x0, .inr (7, [.ref (b 0), .ref (b 1), .ref (b 2), .ref (b 3), .ref (b 4), .ref (b 5), .ref (b 6), .ref (b 7), .ref (b 8), .ref (b 9), .int 1])), ((b 3), .inr (1, [.ref (f2 0), .ref (f2 1), .ref (f2 2), .int 0])), ((b 5), .inl (cZ, 2, .inl (fun _ => 0)))] s.heap := hP
  have hl := lv_entry ([.ref x0]) (n := 4) (Nat.le_of_ble_eq_true rfl)
  rw [lg_entry_eq]
  generalize (lg_sl ([.ref x0]) ++ List.replicate (4 - (lg_sl ([.ref x0])).length) Slot.unset).toArray = ls at hl ⊢
  have hl : lv_has ls 4 [(0, .ref x0)] := hl
  refine lv_aload_n hx hb dX8_takeWhatWasRead_0 rfl (lv_at hl 0 rfl) ?_
  refine va_get (D := (dC, dI)) (ci := 7) (v := .ref (b 6)) (C := RX8) (T := TX8) (N := 11) hx hb hts inlX8 hown hK hP 0 rfl rfl 6 (by decide) (hts (.fieldLink RX8 51 "ClosedUntil" "told" "LClosedUntil$Holdings;") qw_205) (fun _ h9 => h9) rfl dX8_takeWhatWasRead_1 ?_
  refine lv_astore_n (lv' := [(1, .ref (b 6)), (0, .ref x0)]) hx hb dX8_takeWhatWasRead_4 rfl hl (by decide) rfl (fun ls hl => ?_)
  refine lv_aload_n hx hb dX8_takeWhatWasRead_5 rfl (lv_at hl 1 rfl) ?_
  refine lv_aload_n hx hb dX8_takeWhatWasRead_6 rfl (lv_at hl 1 rfl) ?_
  refine va_get (D := (dC, dI)) (ci := 7) (v := .ref (b 7)) (C := RX8) (T := TX8) (N := 11) hx hb hts inlX8 hown hK hP 0 rfl rfl 7 (by decide) (hts (.fieldLink RX8 55 "ClosedUntil" "spareTold" "LClosedUntil$Holdings;") qw_206) (fun _ h9 => h9) rfl dX8_takeWhatWasRead_7 ?_
  refine va_put (D := (dC, dI)) (ci := 7) (v := .ref (b 7)) (ty := .object "ClosedUntil$Holdings") (C := RX8) (T := TX8) (N := 11) hx hb hts inlX8 tyX8 tyX8_ok nmX8 hown hK hP hD hS 0 rfl rfl 6 (by decide) (hts (.fieldLink RX8 51 "ClosedUntil" "told" "LClosedUntil$Holdings;") qw_205) (fun _ h9 => h9) rfl (by decide +kernel) rfl rfl (Nat.le_of_ble_eq_true rfl) dX8_takeWhatWasRead_10 (fun H locs hP hD hS => ?_)
  have hP : va_P (dC, dI) vwCl [(x0, .inr (7, [.ref (b 0), .ref (b 1), .ref (b 2), .ref (b 3), .ref (b 4), .ref (b 5), .ref (b 7), .ref (b 7), .ref (b 8), .ref (b 9), .int 1])), ((b 3), .inr (1, [.ref (f2 0), .ref (f2 1), .ref (f2 2), .int 0])), ((b 5), .inl (cZ, 2, .inl (fun _ => 0)))] H := hP
  have hD : va_D A [(x0, .inr (7, [.ref (b 0), .ref (b 1), .ref (b 2), .ref (b 3), .ref (b 4), .ref (b 5), .ref (b 7), .ref (b 7), .ref (b 8), .ref (b 9), .int 1])), ((b 3), .inr (1, [.ref (f2 0), .ref (f2 1), .ref (f2 2), .int 0])), ((b 5), .inl (cZ, 2, .inl (fun _ => 0)))] := hD
  refine lv_aload_n hx hb dX8_takeWhatWasRead_13 rfl (lv_at hl 1 rfl) ?_
  refine lv_aload_n hx hb dX8_takeWhatWasRead_14 rfl (lv_at hl 0 rfl) ?_
  refine va_put (D := (dC, dI)) (ci := 7) (v := .ref (b 6)) (ty := .object "ClosedUntil$Holdings") (C := RX8) (T := TX8) (N := 11) hx hb hts inlX8 tyX8 tyX8_ok nmX8 hown hK hP hD hS 0 rfl rfl 7 (by decide) (hts (.fieldLink RX8 55 "ClosedUntil" "spareTold" "LClosedUntil$Holdings;") qw_206) (fun _ h9 => h9) rfl (by decide +kernel) rfl rfl (Nat.le_of_ble_eq_true rfl) dX8_takeWhatWasRead_15 (fun H locs hP hD hS => ?_)
  have hP : va_P (dC, dI) vwCl [(x0, .inr (7, [.ref (b 0), .ref (b 1), .ref (b 2), .ref (b 3), .ref (b 4), .ref (b 5), .ref (b 7), .ref (b 6), .ref (b 8), .ref (b 9), .int 1])), ((b 3), .inr (1, [.ref (f2 0), .ref (f2 1), .ref (f2 2), .int 0])), ((b 5), .inl (cZ, 2, .inl (fun _ => 0)))] H := hP
  have hD : va_D A [(x0, .inr (7, [.ref (b 0), .ref (b 1), .ref (b 2), .ref (b 3), .ref (b 4), .ref (b 5), .ref (b 7), .ref (b 6), .ref (b 8), .ref (b 9), .int 1])), ((b 3), .inr (1, [.ref (f2 0), .ref (f2 1), .ref (f2 2), .int 0])), ((b 5), .inl (cZ, 2, .inl (fun _ => 0)))] := hD
  refine lv_aload_n hx hb dX8_takeWhatWasRead_18 rfl (lv_at hl 1 rfl) ?_
  refine va_get (D := (dC, dI)) (ci := 7) (v := .ref (b 8)) (C := RX8) (T := TX8) (N := 11) hx hb hts inlX8 hown hK hP 0 rfl rfl 8 (by decide) (hts (.fieldLink RX8 58 "ClosedUntil" "now" "LClosedUntil$State;") qw_207) (fun _ h9 => h9) rfl dX8_takeWhatWasRead_19 ?_
  refine lv_astore_n (lv' := [(2, .ref (b 8)), (1, .ref (b 6)), (0, .ref x0)]) hx hb dX8_takeWhatWasRead_22 rfl hl (by decide) rfl (fun ls hl => ?_)
  refine lv_aload_n hx hb dX8_takeWhatWasRead_23 rfl (lv_at hl 2 rfl) ?_
  refine lv_aload_n hx hb dX8_takeWhatWasRead_24 rfl (lv_at hl 2 rfl) ?_
  refine va_get (D := (dC, dI)) (ci := 7) (v := .ref (b 9)) (C := RX8) (T := TX8) (N := 11) hx hb hts inlX8 hown hK hP 0 rfl rfl 9 (by decide) (hts (.fieldLink RX8 62 "ClosedUntil" "spareNow" "LClosedUntil$State;") qw_208) (fun _ h9 => h9) rfl dX8_takeWhatWasRead_25 ?_
  refine va_put (D := (dC, dI)) (ci := 7) (v := .ref (b 9)) (ty := .object "ClosedUntil$State") (C := RX8) (T := TX8) (N := 11) hx hb hts inlX8 tyX8 tyX8_ok nmX8 hown hK hP hD hS 0 rfl rfl 8 (by decide) (hts (.fieldLink RX8 58 "ClosedUntil" "now" "LClosedUntil$State;") qw_207) (fun _ h9 => h9) rfl (by decide +kernel) rfl rfl (Nat.le_of_ble_eq_true rfl) dX8_takeWhatWasRead_28 (fun H locs hP hD hS => ?_)
  have hP : va_P (dC, dI) vwCl [(x0, .inr (7, [.ref (b 0), .ref (b 1), .ref (b 2), .ref (b 3), .ref (b 4), .ref (b 5), .ref (b 7), .ref (b 6), .ref (b 9), .ref (b 9), .int 1])), ((b 3), .inr (1, [.ref (f2 0), .ref (f2 1), .ref (f2 2), .int 0])), ((b 5), .inl (cZ, 2, .inl (fun _ => 0)))] H := hP
  have hD : va_D A [(x0, .inr (7, [.ref (b 0), .ref (b 1), .ref (b 2), .ref (b 3), .ref (b 4), .ref (b 5), .ref (b 7), .ref (b 6), .ref (b 9), .ref (b 9), .int 1])), ((b 3), .inr (1, [.ref (f2 0), .ref (f2 1), .ref (f2 2), .int 0])), ((b 5), .inl (cZ, 2, .inl (fun _ => 0)))] := hD
  refine lv_aload_n hx hb dX8_takeWhatWasRead_31 rfl (lv_at hl 2 rfl) ?_
  refine lv_aload_n hx hb dX8_takeWhatWasRead_32 rfl (lv_at hl 0 rfl) ?_
  refine va_put (D := (dC, dI)) (ci := 7) (v := .ref (b 8)) (ty := .object "ClosedUntil$State") (C := RX8) (T := TX8) (N := 11) hx hb hts inlX8 tyX8 tyX8_ok nmX8 hown hK hP hD hS 0 rfl rfl 9 (by decide) (hts (.fieldLink RX8 62 "ClosedUntil" "spareNow" "LClosedUntil$State;") qw_208) (fun _ h9 => h9) rfl (by decide +kernel) rfl rfl (Nat.le_of_ble_eq_true rfl) dX8_takeWhatWasRead_33 (fun H locs hP hD hS => ?_)
  have hP : va_P (dC, dI) vwCl [(x0, .inr (7, [.ref (b 0), .ref (b 1), .ref (b 2), .ref (b 3), .ref (b 4), .ref (b 5), .ref (b 7), .ref (b 6), .ref (b 9), .ref (b 8), .int 1])), ((b 3), .inr (1, [.ref (f2 0), .ref (f2 1), .ref (f2 2), .int 0])), ((b 5), .inl (cZ, 2, .inl (fun _ => 0)))] H := hP
  have hD : va_D A [(x0, .inr (7, [.ref (b 0), .ref (b 1), .ref (b 2), .ref (b 3), .ref (b 4), .ref (b 5), .ref (b 7), .ref (b 6), .ref (b 9), .ref (b 8), .int 1])), ((b 3), .inr (1, [.ref (f2 0), .ref (f2 1), .ref (f2 2), .int 0])), ((b 5), .inl (cZ, 2, .inl (fun _ => 0)))] := hD
  refine lv_aload_n hx hb dX8_takeWhatWasRead_36 rfl (lv_at hl 2 rfl) ?_
  refine va_get (D := (dC, dI)) (ci := 7) (v := .ref (b 3)) (C := RX8) (T := TX8) (N := 11) hx hb hts inlX8 hown hK hP 0 rfl rfl 3 (by decide) (hts (.fieldLink RX8 33 "ClosedUntil" "journal" "LClosedUntil$Journal;") qw_193) (fun _ h9 => h9) rfl dX8_takeWhatWasRead_37 ?_
  have hPc := hP.sub (ws' := [((b 3), .inr (1, [.ref (f2 0), .ref (f2 1), .ref (f2 2), .int 0]))]) [1] rfl
  have hKc := hK.sub (tys' := []) [] rfl
  have hDc := hD.sub (ws' := [((b 3), .inr (1, [.ref (f2 0), .ref (f2 1), .ref (f2 2), .int 0]))]) [1] (by decide) rfl
  have hFc := va_free (wc := [((b 3), .inr (1, [.ref (f2 0), .ref (f2 1), .ref (f2 2), .int 0]))]) hD hS hA [1] rfl
  refine va_callv (va_runVN (As := []) (rest := []) ⟨hx, hb, hml, hown, hts⟩ (c_fa l dC dI g H.size ((b 3)) (f2) ) ⟨va_cnB 0 hts (gwC qw_315) rfl rfl rfl (nm_17 hN) (hts (.initialized RX2) qw_190) (by decide +kernel) ⟨Nat.le_of_ble_eq_true rfl, Nat.le_of_ble_eq_true rfl⟩, (hts (.instanceMethod yX2_forgetAll) qw_316), (hts (.selects RX2 yX2_forgetAll yX2_forgetAll) qw_317)⟩ ⟨fun a U g9 mk q => ⟨q.1, q.2.1, q.2.2.1, va_K.moved (u := U) (U := U.calling g9 mk a) (Vm.Alike.refl U.vm) q.2.2.2.1, q.2.2.2.2.1, Ev.bl q.2.2.2.2.2⟩, va_recv hK hP (ci := 1) (q0 := 1) rfl rfl, fun U hU hW => ⟨rfl, by rw [hU], by rw [hU]; exact hPc, va_K.moved hW.alike hKc, hDc.weaken (fun _ _ _ _ => trivial), hE.go hS hFc hU hW⟩⟩ rfl rfl hl.1 rfl (lv_room (Nat.le_of_ble_eq_true rfl)) dX8_takeWhatWasRead_40 ⟨Nat.le_of_ble_eq_true rfl, Nat.le_of_ble_eq_true rfl⟩) hS (fun q _ h => hFc q h) hFc (fun u1 t H1 locs ht hvm h_u1 hB hz1 hk1 hS => ?_)
  obtain ⟨hP1, hK1, hD1⟩ := hB
  rw [ht] at hP1
  have hK1 := va_K.moved hvm.symm hK1
  obtain ⟨hP, hD⟩ := va_join (wr := [(x0, .inr (7, [.ref (b 0), .ref (b 1), .ref (b 2), .ref (b 3), .ref (b 4), .ref (b 5), .ref (b 7), .ref (b 6), .ref (b 9), .ref (b 8), .int 1])), ((b 5), .inl (cZ, 2, .inl (fun _ => 0)))]) (w1 := [((b 3), .inr (1, [.ref (f2 0), .ref (f2 1), .ref (f2 2), .int 0]))]) hP hD [1] [0, 2] rfl rfl (by decide) (by decide) hk1 hFc hP1 hD1
  have hK := hK.app hK1
  have hK : va_K (dC, dI) vwCl [(cZ, .boolean)] s := hK
  generalize H1 = H at hP hS ⊢
  have hP : va_P (dC, dI) vwCl [(x0, .inr (7, [.ref (b 0), .ref (b 1), .ref (b 2), .ref (b 3), .ref (b 4), .ref (b 5), .ref (b 7), .ref (b 6), .ref (b 9), .ref (b 8), .int 1])), ((b 5), .inl (cZ, 2, .inl (fun _ => 0))), ((b 3), .inr (1, [.ref (f2 0), .ref (f2 1), .ref (f2 2), .int 0]))] H := hP
  have hD : va_D A [(x0, .inr (7, [.ref (b 0), .ref (b 1), .ref (b 2), .ref (b 3), .ref (b 4), .ref (b 5), .ref (b 7), .ref (b 6), .ref (b 9), .ref (b 8), .int 1])), ((b 5), .inl (cZ, 2, .inl (fun _ => 0))), ((b 3), .inr (1, [.ref (f2 0), .ref (f2 1), .ref (f2 2), .int 0]))] := hD
  refine W.widen (k := 0) (n := 0) (Nat.le_of_ble_eq_true rfl) (Nat.le_of_ble_eq_true rfl) ?_
  refine lv_iconst (v := 0) hx hb dX8_takeWhatWasRead_43 (by decide) ?_
  refine lv_istore_n (lv' := [(3, .int 0), (2, .ref (b 8)), (1, .ref (b 6)), (0, .ref x0)]) hx hb dX8_takeWhatWasRead_44 rfl hl (by decide) rfl (fun ls hl => ?_)
  refine lv_iload_n hx hb dX8_takeWhatWasRead_45 rfl (lv_at hl 0 rfl) ?_
  refine lv_iconst (v := 2) hx hb dX8_takeWhatWasRead_46 (by decide) ?_
  refine lv_icmp_ge (tgt := 63) hx hb dX8_takeWhatWasRead_47 (by decide) (fun c47_3 => by exfalso; exact absurd c47_3 (by decide)) (fun c47_3 => ?_)
  refine lv_aload_n hx hb dX8_takeWhatWasRead_50 rfl (lv_at hl 3 rfl) ?_
  refine va_get (D := (dC, dI)) (ci := 7) (v := .ref (b 5)) (C := RX8) (T := TX8) (N := 11) hx hb hts inlX8 hown hK hP 0 rfl rfl 5 (by decide) (hts (.fieldLink RX8 44 "ClosedUntil" "isKept" "[Z") qw_199) (fun _ h9 => h9) rfl dX8_takeWhatWasRead_51 ?_
  refine lv_iload_n hx hb dX8_takeWhatWasRead_54 rfl (lv_at hl 0 rfl) ?_
  refine lv_iconst (v := 0) hx hb dX8_takeWhatWasRead_55 (by decide) ?_
  refine va_zast hx hb hK hP hD hS 1 0 rfl rfl (vin0 (by decide)) dX8_takeWhatWasRead_56 (fun H locs hP hD hS => ?_)
  have hP : va_P (dC, dI) vwCl [(x0, .inr (7, [.ref (b 0), .ref (b 1), .ref (b 2), .ref (b 3), .ref (b 4), .ref (b 5), .ref (b 7), .ref (b 6), .ref (b 9), .ref (b 8), .int 1])), ((b 5), .inl (cZ, 2, .inl (upd (fun _ => 0) (0 : Int32).toNatClampNeg (vp_nar .boolean (0))))), ((b 3), .inr (1, [.ref (f2 0), .ref (f2 1), .ref (f2 2), .int 0]))] H := hP
  have hD : va_D A [(x0, .inr (7, [.ref (b 0), .ref (b 1), .ref (b 2), .ref (b 3), .ref (b 4), .ref (b 5), .ref (b 7), .ref (b 6), .ref (b 9), .ref (b 8), .int 1])), ((b 5), .inl (cZ, 2, .inl (upd (fun _ => 0) (0 : Int32).toNatClampNeg (vp_nar .boolean (0))))), ((b 3), .inr (1, [.ref (f2 0), .ref (f2 1), .ref (f2 2), .int 0]))] := hD
  refine lv_iinc (v := 1) (lv' := [(3, .int 1), (2, .ref (b 8)), (1, .ref (b 6)), (0, .ref x0)]) hx hb dX8_takeWhatWasRead_57 hl (k := 0) rfl (by decide) (by decide) rfl (fun ls hl => ?_)
  refine lv_goto (tgt := 45) hx hb dX8_takeWhatWasRead_60 (by decide) ?_
  refine lv_iload_n hx hb dX8_takeWhatWasRead_45 rfl (lv_at hl 0 rfl) ?_
  refine lv_iconst (v := 2) hx hb dX8_takeWhatWasRead_46 (by decide) ?_
  refine lv_icmp_ge (tgt := 63) hx hb dX8_takeWhatWasRead_47 (by decide) (fun c47_4 => by exfalso; exact absurd c47_4 (by decide)) (fun c47_4 => ?_)
  refine lv_aload_n hx hb dX8_takeWhatWasRead_50 rfl (lv_at hl 3 rfl) ?_
  refine va_get (D := (dC, dI)) (ci := 7) (v := .ref (b 5)) (C := RX8) (T := TX8) (N := 11) hx hb hts inlX8 hown hK hP 0 rfl rfl 5 (by decide) (hts (.fieldLink RX8 44 "ClosedUntil" "isKept" "[Z") qw_199) (fun _ h9 => h9) rfl dX8_takeWhatWasRead_51 ?_
  refine lv_iload_n hx hb dX8_takeWhatWasRead_54 rfl (lv_at hl 0 rfl) ?_
  refine lv_iconst (v := 0) hx hb dX8_takeWhatWasRead_55 (by decide) ?_
  refine va_zast hx hb hK hP hD hS 1 0 rfl rfl (vin0 (by decide)) dX8_takeWhatWasRead_56 (fun H locs hP hD hS => ?_)
  have hP : va_P (dC, dI) vwCl [(x0, .inr (7, [.ref (b 0), .ref (b 1), .ref (b 2), .ref (b 3), .ref (b 4), .ref (b 5), .ref (b 7), .ref (b 6), .ref (b 9), .ref (b 8), .int 1])), ((b 5), .inl (cZ, 2, .inl (upd (upd (fun _ => 0) (0 : Int32).toNatClampNeg (vp_nar .boolean (0))) (1 : Int32).toNatClampNeg (vp_nar .boolean (0))))), ((b 3), .inr (1, [.ref (f2 0), .ref (f2 1), .ref (f2 2), .int 0]))] H := hP
  have hD : va_D A [(x0, .inr (7, [.ref (b 0), .ref (b 1), .ref (b 2), .ref (b 3), .ref (b 4), .ref (b 5), .ref (b 7), .ref (b 6), .ref (b 9), .ref (b 8), .int 1])), ((b 5), .inl (cZ, 2, .inl (upd (upd (fun _ => 0) (0 : Int32).toNatClampNeg (vp_nar .boolean (0))) (1 : Int32).toNatClampNeg (vp_nar .boolean (0))))), ((b 3), .inr (1, [.ref (f2 0), .ref (f2 1), .ref (f2 2), .int 0]))] := hD
  refine lv_iinc (v := 2) (lv' := [(3, .int 2), (2, .ref (b 8)), (1, .ref (b 6)), (0, .ref x0)]) hx hb dX8_takeWhatWasRead_57 hl (k := 0) rfl (by decide) (by decide) rfl (fun ls hl => ?_)
  refine lv_goto (tgt := 45) hx hb dX8_takeWhatWasRead_60 (by decide) ?_
  refine lv_iload_n hx hb dX8_takeWhatWasRead_45 rfl (lv_at hl 0 rfl) ?_
  refine lv_iconst (v := 2) hx hb dX8_takeWhatWasRead_46 (by decide) ?_
  refine lv_icmp_ge (tgt := 63) hx hb dX8_takeWhatWasRead_47 (by decide) (fun c47_5 => ?_) (fun c47_5 => by exfalso; exact absurd c47_5 (by decide))
  refine lv_aload_n hx hb dX8_takeWhatWasRead_63 rfl (lv_at hl 3 rfl) ?_
  refine lv_iconst (v := 1) hx hb dX8_takeWhatWasRead_64 (by decide) ?_
  refine va_put (D := (dC, dI)) (ci := 7) (v := .int 1) (ty := .boolean) (C := RX8) (T := TX8) (N := 11) hx hb hts inlX8 tyX8 tyX8_ok nmX8 hown hK hP hD hS 0 rfl rfl 10 (by decide) (hts (.fieldLink RX8 65 "ClosedUntil" "stale" "Z") qw_209) (fun _ h9 => h9) rfl (by decide +kernel) rfl rfl (Nat.le_of_ble_eq_true rfl) dX8_takeWhatWasRead_65 (fun H locs hP hD hS => ?_)
  have hP : va_P (dC, dI) vwCl [(x0, .inr (7, [.ref (b 0), .ref (b 1), .ref (b 2), .ref (b 3), .ref (b 4), .ref (b 5), .ref (b 7), .ref (b 6), .ref (b 9), .ref (b 8), .int 1])), ((b 5), .inl (cZ, 2, .inl (upd (upd (fun _ => 0) (0 : Int32).toNatClampNeg (vp_nar .boolean (0))) (1 : Int32).toNatClampNeg (vp_nar .boolean (0))))), ((b 3), .inr (1, [.ref (f2 0), .ref (f2 1), .ref (f2 2), .int 0]))] H := hP
  have hD : va_D A [(x0, .inr (7, [.ref (b 0), .ref (b 1), .ref (b 2), .ref (b 3), .ref (b 4), .ref (b 5), .ref (b 7), .ref (b 6), .ref (b 9), .ref (b 8), .int 1])), ((b 5), .inl (cZ, 2, .inl (upd (upd (fun _ => 0) (0 : Int32).toNatClampNeg (vp_nar .boolean (0))) (1 : Int32).toNatClampNeg (vp_nar .boolean (0))))), ((b 3), .inr (1, [.ref (f2 0), .ref (f2 1), .ref (f2 2), .int 0]))] := hD
  refine W.widen (k := 0) (n := 0) (Nat.le_of_ble_eq_true rfl) (Nat.le_of_ble_eq_true rfl) ?_
  exact W.vret hx hb hr (fun t ht hW => ⟨⟨(), rfl, (trivial), trivial⟩, hS.F ht⟩) hS.2.2 dX8_takeWhatWasRead_68
set_option maxHeartbeats 4000000 in
set_option maxRecDepth 100000 in
theorem c_8text_0 (l : Launch) (dC : Nat → ClassId) (dI : Nat → Nat → Nat) (g : Gv) (sz : Nat) (x0 : Nat) (b : Nat → Nat) (f4 : Nat → Nat) (c4 : ClassId) (f5 : Nat → Nat) (f7 : Nat → Nat) (f6 : Nat → Nat) (f2 : Nat → Nat) (cK : ClassId) (kf : Nat → Option Nat) (cZ : ClassId) (fT : Nat → Nat) (fU : Nat → Nat) (sa : Nat → Nat) (sf : Nat → Nat → Nat) (sc : Nat → Nat → ClassId) (spf : Nat → Nat → Int32) (sdf : Nat → Nat → Int32) (slf : Nat → Nat → Int32) (srf : Nat → Nat → Int32) (sga : Nat → Nat → Option Nat) (sgb : Nat → Nat → Option Nat) (rows : va_W)  : Met l yX8_text (.code yX8_text cX8_text 3 (some .int) :: TBL) ({ frames := 4, cells := 0, slots := 0, locals := 240 }) (va_Pc [.ref x0, .int 0] (fun U => U.heap.size = sz ∧ va_P (dC, dI) vwCl [(x0, .inr (7, [.ref (b 0), .ref (b 1), .ref (b 2), .ref (b 3), .ref (b 4), .ref (b 5), .ref (b 6), .ref (b 7), .ref (b 8), .ref (b 9), .int 1])), ((b 0), .inr (3, [.ref (f4 0), .int 0])), ((b 1), .inr (4, [.ref (f5 0), .ref (f5 1), .ref (f5 2), .ref (f5 3), .int 0, .int 0])), ((f5 0), .inr (6, [.ref (f7 0), .ref (f7 1), .int 0, .int 0, .int 0, .int 0, .long 0, .int 0])), ((f4 0), .inl (c4, 1000, .inl (fun _ => 0))), ((b 7), .inr (0, [.int 0, .ref (fU 1), .int 0, .ref (fU 3), .int 0, .ref (fU 5), .ref (fU 6), .ref (fU 7), .int 0, .ref (fU 9), .ref (fU 10), .ref (fU 11), .ref (fU 12), .ref (fU 13)])), ((b 9), .inr (2, [.ref ((sf 3) 0), .ref ((sf 3) 1), .ref ((sf 3) 2), .ref ((sf 3) 3), .ref ((sf 3) 4), .ref ((sf 3) 5)])), (((sf 3) 0), .inl (((sc 3) 0), 24, .inl (spf 3))), (((sf 3) 1), .inl (((sc 3) 1), 8, .inl (sdf 3))), (((sf 3) 2), .inl (((sc 3) 2), 12, .inl (slf 3))), (((sf 3) 3), .inl (((sc 3) 3), 12, .inl (srf 3))), ((b 3), .inr (1, [.ref (f2 0), .ref (f2 1), .ref (f2 2), .int 0])), ((b 5), .inl (cZ, 2, .inl (fun _ => 0)))] U.heap ∧ va_K (dC, dI) vwCl [(c4, .byte), (((sc 3) 0), .int), (((sc 3) 1), .int), (((sc 3) 2), .int), (((sc 3) 3), .int), (cZ, .boolean)] U ∧ va_D (fun _ => True) [(x0, .inr (7, [.ref (b 0), .ref (b 1), .ref (b 2), .ref (b 3), .ref (b 4), .ref (b 5), .ref (b 6), .ref (b 7), .ref (b 8), .ref (b 9), .int 1])), ((b 0), .inr (3, [.ref (f4 0), .int 0])), ((b 1), .inr (4, [.ref (f5 0), .ref (f5 1), .ref (f5 2), .ref (f5 3), .int 0, .int 0])), ((f5 0), .inr (6, [.ref (f7 0), .ref (f7 1), .int 0, .int 0, .int 0, .int 0, .long 0, .int 0])), ((f4 0), .inl (c4, 1000, .inl (fun _ => 0))), ((b 7), .inr (0, [.int 0, .ref (fU 1), .int 0, .ref (fU 3), .int 0, .ref (fU 5), .ref (fU 6), .ref (fU 7), .int 0, .ref (fU 9), .ref (fU 10), .ref (fU 11), .ref (fU 12), .ref (fU 13)])), ((b 9), .inr (2, [.ref ((sf 3) 0), .ref ((sf 3) 1), .ref ((sf 3) 2), .ref ((sf 3) 3), .ref ((sf 3) 4), .ref ((sf 3) 5)])), (((sf 3) 0), .inl (((sc 3) 0), 24, .inl (spf 3))), (((sf 3) 1), .inl (((sc 3) 1), 8, .inl (sdf 3))), (((sf 3) 2), .inl (((sc 3) 2), 12, .inl (slf 3))), (((sf 3) 3), .inl (((sc 3) 3), 12, .inl (srf 3))), ((b 3), .inr (1, [.ref (f2 0), .ref (f2 1), .ref (f2 2), .int 0])), ((b 5), .inl (cZ, 2, .inl (fun _ => 0)))] ∧ Ev g (va_A [(x0, .inr (7, [.ref (b 0), .ref (b 1), .ref (b 2), .ref (b 3), .ref (b 4), .ref (b 5), .ref (b 6), .ref (b 7), .ref (b 8), .ref (b 9), .int 1])), ((b 0), .inr (3, [.ref (f4 0), .int 0])), ((b 1), .inr (4, [.ref (f5 0), .ref (f5 1), .ref (f5 2), .ref (f5 3), .int 0, .int 0])), ((f5 0), .inr (6, [.ref (f7 0), .ref (f7 1), .int 0, .int 0, .int 0, .int 0, .long 0, .int 0])), ((f4 0), .inl (c4, 1000, .inl (fun _ => 0))), ((b 7), .inr (0, [.int 0, .ref (fU 1), .int 0, .ref (fU 3), .int 0, .ref (fU 5), .ref (fU 6), .ref (fU 7), .int 0, .ref (fU 9), .ref (fU 10), .ref (fU 11), .ref (fU 12), .ref (fU 13)])), ((b 9), .inr (2, [.ref ((sf 3) 0), .ref ((sf 3) 1), .ref ((sf 3) 2), .ref ((sf 3) 3), .ref ((sf 3) 4), .ref ((sf 3) 5)])), (((sf 3) 0), .inl (((sc 3) 0), 24, .inl (spf 3))), (((sf 3) 1), .inl (((sc 3) 1), 8, .inl (sdf 3))), (((sf 3) 2), .inl (((sc 3) 2), 12, .inl (slf 3))), (((sf 3) 3), .inl (((sc 3) 3), 12, .inl (srf 3))), ((b 3), .inr (1, [.ref (f2 0), .ref (f2 1), .ref (f2 2), .int 0])), ((b 5), .inl (cZ, 2, .inl (fun _ => 0)))] sz) U)) (va_Qi (fun (r : Int32) (u : Unit) => r = 0) (fun (_ : Unit) (_ : State) => True) (va_A [(x0, .inr (7, [.ref (b 0), .ref (b 1), .ref (b 2), .ref (b 3), .ref (b 4), .ref (b 5), .ref (b 6), .ref (b 7), .ref (b 8), .ref (b 9), .int 1])), ((b 0), .inr (3, [.ref (f4 0), .int 0])), ((b 1), .inr (4, [.ref (f5 0), .ref (f5 1), .ref (f5 2), .ref (f5 3), .int 0, .int 0])), ((f5 0), .inr (6, [.ref (f7 0), .ref (f7 1), .int 0, .int 0, .int 0, .int 0, .long 0, .int 0])), ((f4 0), .inl (c4, 1000, .inl (fun _ => 0))), ((b 7), .inr (0, [.int 0, .ref (fU 1), .int 0, .ref (fU 3), .int 0, .ref (fU 5), .ref (fU 6), .ref (fU 7), .int 0, .ref (fU 9), .ref (fU 10), .ref (fU 11), .ref (fU 12), .ref (fU 13)])), ((b 9), .inr (2, [.ref ((sf 3) 0), .ref ((sf 3) 1), .ref ((sf 3) 2), .ref ((sf 3) 3), .ref ((sf 3) 4), .ref ((sf 3) 5)])), (((sf 3) 0), .inl (((sc 3) 0), 24, .inl (spf 3))), (((sf 3) 1), .inl (((sc 3) 1), 8, .inl (sdf 3))), (((sf 3) 2), .inl (((sc 3) 2), 12, .inl (slf 3))), (((sf 3) 3), .inl (((sc 3) 3), 12, .inl (srf 3))), ((b 3), .inr (1, [.ref (f2 0), .ref (f2 1), .ref (f2 2), .int 0])), ((b 5), .inl (cZ, 2, .inl (fun _ => 0)))] sz)) 0 0 (va_A [(x0, .inr (7, [.ref (b 0), .ref (b 1), .ref (b 2), .ref (b 3), .ref (b 4), .ref (b 5), .ref (b 6), .ref (b 7), .ref (b 8), .ref (b 9), .int 1])), ((b 0), .inr (3, [.ref (f4 0), .int 0])), ((b 1), .inr (4, [.ref (f5 0), .ref (f5 1), .ref (f5 2), .ref (f5 3), .int 0, .int 0])), ((f5 0), .inr (6, [.ref (f7 0), .ref (f7 1), .int 0, .int 0, .int 0, .int 0, .long 0, .int 0])), ((f4 0), .inl (c4, 1000, .inl (fun _ => 0))), ((b 7), .inr (0, [.int 0, .ref (fU 1), .int 0, .ref (fU 3), .int 0, .ref (fU 5), .ref (fU 6), .ref (fU 7), .int 0, .ref (fU 9), .ref (fU 10), .ref (fU 11), .ref (fU 12), .ref (fU 13)])), ((b 9), .inr (2, [.ref ((sf 3) 0), .ref ((sf 3) 1), .ref ((sf 3) 2), .ref ((sf 3) 3), .ref ((sf 3) 4), .ref ((sf 3) 5)])), (((sf 3) 0), .inl (((sc 3) 0), 24, .inl (spf 3))), (((sf 3) 1), .inl (((sc 3) 1), 8, .inl (sdf 3))), (((sf 3) 2), .inl (((sc 3) 2), 12, .inl (slf 3))), (((sf 3) 3), .inl (((sc 3) 3), 12, .inl (srf 3))), ((b 3), .inr (1, [.ref (f2 0), .ref (f2 1), .ref (f2 2), .int 0])), ((b 5), .inl (cZ, 2, .inl (fun _ => 0)))] sz) := by
  refine Met.ofW (cc := cX8_text) (maxL := 3) (ret := (some .int)) (by decide) rfl ?_
  intro p e s m args below meth c s₁ B hml hv
  obtain ⟨rfl, hsz, hP, hK, hD0, hE⟩ := hv
  have hx := B.exec
  have hb := B.bytes
  have hr := B.returns
  have hts0 := atoms_spec (ws := (.code yX8_text cX8_text 3 (some .int) :: TBL)) B.pre
  have hts := fun (w : Cond) (h : w ∈ TBL) => hts0 w (List.mem_cons_of_mem _ h)
  have hown : s.vm.findClass RX8 = some m.cls := findClass_of_methodNamed B.named
  have hlocks := B.notSynchronized
  have hN := hE.1
  subst hsz
  have hD := hD0.self (sz := s.heap.size)
  generalize hAe : va_A [(x0, .inr (7, [.ref (b 0), .ref (b 1), .ref (b 2), .ref (b 3), .ref (b 4), .ref (b 5), .ref (b 6), .ref (b 7), .ref (b 8), .ref (b 9), .int 1])), ((b 0), .inr (3, [.ref (f4 0), .int 0])), ((b 1), .inr (4, [.ref (f5 0), .ref (f5 1), .ref (f5 2), .ref (f5 3), .int 0, .int 0])), ((f5 0), .inr (6, [.ref (f7 0), .ref (f7 1), .int 0, .int 0, .int 0, .int 0, .long 0, .int 0])), ((f4 0), .inl (c4, 1000, .inl (fun _ => 0))), ((b 7), .inr (0, [.int 0, .ref (fU 1), .int 0, .ref (fU 3), .int 0, .ref (fU 5), .ref (fU 6), .ref (fU 7), .int 0, .ref (fU 9), .ref (fU 10), .ref (fU 11), .ref (fU 12), .ref (fU 13)])), ((b 9), .inr (2, [.ref ((sf 3) 0), .ref ((sf 3) 1), .ref ((sf 3) 2), .ref ((sf 3) 3), .ref ((sf 3) 4), .ref ((sf 3) 5)])), (((sf 3) 0), .inl (((sc 3) 0), 24, .inl (spf 3))), (((sf 3) 1), .inl (((sc 3) 1), 8, .inl (sdf 3))), (((sf 3) 2), .inl (((sc 3) 2), 12, .inl (slf 3))), (((sf 3) 3), .inl (((sc 3) 3), 12, .inl (srf 3))), ((b 3), .inr (1, [.ref (f2 0), .ref (f2 1), .ref (f2 2), .int 0])), ((b 5), .inl (cZ, 2, .inl (fun _ => 0)))] s.heap.size = A at hD hE ⊢
  have hA : ∀ q : Nat, s.heap.size ≤ q → A q := fun q h => by rw [← hAe]; exact Or.inr h
  have hS : va_S A s.heap s.heap [] := va_S.rf
  have hP : va_P (dC, dI) vwCl [(x0, .inr (7, [.ref (b 0), .ref (b 1), .ref (b 2), .ref (b 3), .ref (b 4), .ref (b 5), .ref (b 6), .ref (b 7), .ref (b 8), .ref (b 9), .int 1])), ((b 0), .inr (3, [.ref (f4 0), .int 0])), ((b 1), .inr (4, [.ref (f5 0), .ref (f5 1), .ref (f5 2), .ref (f5 3), .int 0, .int 0])), ((f5 0), .inr (6, [.ref (f7 0), .ref (f7 1), .int 0, .int 0, .int 0, .int 0, .long 0, .int 0])), ((f4 0), .inl (c4, 1000, .inl (fun _ => 0))), ((b 7), .inr (0, [.int 0, .ref (fU 1), .int 0, .ref (fU 3), .int 0, .ref (fU 5), .ref (fU 6), .ref (fU 7), .int 0, .ref (fU 9), .ref (fU 10), .ref (fU 11), .ref (fU 12), .ref (fU 13)])), ((b 9), .inr (2, [.ref ((sf 3) 0), .ref ((sf 3) 1), .ref ((sf 3) 2), .ref ((sf 3) 3), .ref ((sf 3) 4), .ref ((sf 3) 5)])), (((sf 3) 0), .inl (((sc 3) 0), 24, .inl (spf 3))), (((sf 3) 1), .inl (((sc 3) 1), 8, .inl (sdf 3))), (((sf 3) 2), .inl (((sc 3) 2), 12, .inl (slf 3))), (((sf 3) 3), .inl (((sc 3) 3), 12, .inl (srf 3))), ((b 3), .inr (1, [.ref (f2 0), .ref (f2 1), .ref (f2 2), .int 0])), ((b 5), .inl (cZ, 2, .inl (fun _ => 0)))] s.heap := hP
  have hl := lv_entry ([.ref x0, .int 0]) (n := 3) (Nat.le_of_ble_eq_true rfl)
  rw [lg_entry_eq]
  generalize (lg_sl ([.ref x0, .int 0]) ++ List.replicate (3 - (lg_sl ([.ref x0, .int 0])).length) Slot.unset).toArray = ls at hl ⊢
  have hl : lv_has ls 3 [(0, .ref x0), (1, .int 0)] := hl
  refine lv_iload_n hx hb dX8_text_0 rfl (lv_at hl 1 rfl) ?_
  refine lv_if_lt (tgt := 15) hx hb dX8_text_1 (by decide) (fun c1_1 => by exfalso; exact absurd c1_1 (by decide)) (fun c1_1 => ?_)
  refine lv_iload_n hx hb dX8_text_4 rfl (lv_at hl 1 rfl) ?_
  refine lv_aload_n hx hb dX8_text_5 rfl (lv_at hl 0 rfl) ?_
  refine va_get (D := (dC, dI)) (ci := 7) (v := .ref (b 0)) (C := RX8) (T := TX8) (N := 11) hx hb hts inlX8 hown hK hP 0 rfl rfl 0 (by decide) (hts (.fieldLink RX8 10 "ClosedUntil" "tape" "LClosedUntil$Tape;") qw_175) (fun _ h9 => h9) rfl dX8_text_6 ?_
  refine va_getN (D := (dC, dI)) (ci := 3) (v := .int 0) (C := RX4) (T := TX4) (N := 2) hx hb hts inlX4 hown hK hP 1 rfl rfl 1 (by decide) (va_Nw.use rfl (nf_1 hN)) (fun _ h9 => h9) rfl dX8_text_9 ?_
  refine lv_icmp_le (tgt := 17) hx hb dX8_text_12 (by decide) (fun c12_2 => ?_) (fun c12_2 => by exfalso; exact absurd c12_2 (by decide))
  refine lv_aload_n hx hb dX8_text_17 rfl (lv_at hl 0 rfl) ?_
  refine va_get (D := (dC, dI)) (ci := 7) (v := .ref (b 1)) (C := RX8) (T := TX8) (N := 11) hx hb hts inlX8 hown hK hP 0 rfl rfl 1 (by decide) (hts (.fieldLink RX8 19 "ClosedUntil" "reader" "LClosedUntil$TextReader;") qw_181) (fun _ h9 => h9) rfl dX8_text_18 ?_
  refine lv_aload_n hx hb dX8_text_21 rfl (lv_at hl 0 rfl) ?_
  refine va_get (D := (dC, dI)) (ci := 7) (v := .ref (b 0)) (C := RX8) (T := TX8) (N := 11) hx hb hts inlX8 hown hK hP 0 rfl rfl 0 (by decide) (hts (.fieldLink RX8 10 "ClosedUntil" "tape" "LClosedUntil$Tape;") qw_175) (fun _ h9 => h9) rfl dX8_text_22 ?_
  refine va_getN (D := (dC, dI)) (ci := 3) (v := .ref (f4 0)) (C := RX4) (T := TX4) (N := 2) hx hb hts inlX4 hown hK hP 1 rfl rfl 0 (by decide) (va_Nw.use rfl (nf_0 hN)) (fun _ h9 => h9) rfl dX8_text_25 ?_
  refine lv_iload_n hx hb dX8_text_28 rfl (lv_at hl 1 rfl) ?_
  refine lv_aload_n hx hb dX8_text_29 rfl (lv_at hl 0 rfl) ?_
  refine va_get (D := (dC, dI)) (ci := 7) (v := .ref (b 7)) (C := RX8) (T := TX8) (N := 11) hx hb hts inlX8 hown hK hP 0 rfl rfl 7 (by decide) (hts (.fieldLink RX8 55 "ClosedUntil" "spareTold" "LClosedUntil$Holdings;") qw_206) (fun _ h9 => h9) rfl dX8_text_30 ?_
  refine lv_aload_n hx hb dX8_text_33 rfl (lv_at hl 0 rfl) ?_
  refine va_get (D := (dC, dI)) (ci := 7) (v := .ref (b 9)) (C := RX8) (T := TX8) (N := 11) hx hb hts inlX8 hown hK hP 0 rfl rfl 9 (by decide) (hts (.fieldLink RX8 62 "ClosedUntil" "spareNow" "LClosedUntil$State;") qw_208) (fun _ h9 => h9) rfl dX8_text_34 ?_
  have hPc := hP.sub (ws' := [((b 1), .inr (4, [.ref (f5 0), .ref (f5 1), .ref (f5 2), .ref (f5 3), .int 0, .int 0])), ((f5 0), .inr (6, [.ref (f7 0), .ref (f7 1), .int 0, .int 0, .int 0, .int 0, .long 0, .int 0])), ((f4 0), .inl (c4, 1000, .inl (fun _ => 0))), ((b 7), .inr (0, [.int 0, .ref (fU 1), .int 0, .ref (fU 3), .int 0, .ref (fU 5), .ref (fU 6), .ref (fU 7), .int 0, .ref (fU 9), .ref (fU 10), .ref (fU 11), .ref (fU 12), .ref (fU 13)])), ((b 9), .inr (2, [.ref ((sf 3) 0), .ref ((sf 3) 1), .ref ((sf 3) 2), .ref ((sf 3) 3), .ref ((sf 3) 4), .ref ((sf 3) 5)])), (((sf 3) 0), .inl (((sc 3) 0), 24, .inl (spf 3))), (((sf 3) 1), .inl (((sc 3) 1), 8, .inl (sdf 3))), (((sf 3) 2), .inl (((sc 3) 2), 12, .inl (slf 3))), (((sf 3) 3), .inl (((sc 3) 3), 12, .inl (srf 3)))]) [2, 3, 4, 5, 6, 7, 8, 9, 10] rfl
  have hKc := hK.sub (tys' := [(c4, .byte), (((sc 3) 0), .int), (((sc 3) 1), .int), (((sc 3) 2), .int), (((sc 3) 3), .int)]) [0, 1, 2, 3, 4] rfl
  have hDc := hD.sub (ws' := [((b 1), .inr (4, [.ref (f5 0), .ref (f5 1), .ref (f5 2), .ref (f5 3), .int 0, .int 0])), ((f5 0), .inr (6, [.ref (f7 0), .ref (f7 1), .int 0, .int 0, .int 0, .int 0, .long 0, .int 0])), ((f4 0), .inl (c4, 1000, .inl (fun _ => 0))), ((b 7), .inr (0, [.int 0, .ref (fU 1), .int 0, .ref (fU 3), .int 0, .ref (fU 5), .ref (fU 6), .ref (fU 7), .int 0, .ref (fU 9), .ref (fU 10), .ref (fU 11), .ref (fU 12), .ref (fU 13)])), ((b 9), .inr (2, [.ref ((sf 3) 0), .ref ((sf 3) 1), .ref ((sf 3) 2), .ref ((sf 3) 3), .ref ((sf 3) 4), .ref ((sf 3) 5)])), (((sf 3) 0), .inl (((sc 3) 0), 24, .inl (spf 3))), (((sf 3) 1), .inl (((sc 3) 1), 8, .inl (sdf 3))), (((sf 3) 2), .inl (((sc 3) 2), 12, .inl (slf 3))), (((sf 3) 3), .inl (((sc 3) 3), 12, .inl (srf 3)))]) [2, 3, 4, 5, 6, 7, 8, 9, 10] (by decide) rfl
  have hFc := va_free (wc := [((b 1), .inr (4, [.ref (f5 0), .ref (f5 1), .ref (f5 2), .ref (f5 3), .int 0, .int 0])), ((f5 0), .inr (6, [.ref (f7 0), .ref (f7 1), .int 0, .int 0, .int 0, .int 0, .long 0, .int 0])), ((f4 0), .inl (c4, 1000, .inl (fun _ => 0))), ((b 7), .inr (0, [.int 0, .ref (fU 1), .int 0, .ref (fU 3), .int 0, .ref (fU 5), .ref (fU 6), .ref (fU 7), .int 0, .ref (fU 9), .ref (fU 10), .ref (fU 11), .ref (fU 12), .ref (fU 13)])), ((b 9), .inr (2, [.ref ((sf 3) 0), .ref ((sf 3) 1), .ref ((sf 3) 2), .ref ((sf 3) 3), .ref ((sf 3) 4), .ref ((sf 3) 5)])), (((sf 3) 0), .inl (((sc 3) 0), 24, .inl (spf 3))), (((sf 3) 1), .inl (((sc 3) 1), 8, .inl (sdf 3))), (((sf 3) 2), .inl (((sc 3) 2), 12, .inl (slf 3))), (((sf 3) 3), .inl (((sc 3) 3), 12, .inl (srf 3)))]) hD hS hA [2, 3, 4, 5, 6, 7, 8, 9, 10] rfl
  refine va_calli (va_runVN (As := [.ref (f4 0), .int 0, .ref (b 7), .ref (b 9)]) (rest := []) ⟨hx, hb, hml, hown, hts⟩ (c_rd l dC dI g s.heap.size (b) (f4) (c4) (f5) (f7) (f6) (f2) (cK) (kf) (cZ) (fT) (fU) (sa) (sf) (sc) (spf) (sdf) (slf) (srf) (sga) (sgb) (rows) ) ⟨va_cnB 4 hts (gwC qw_318) rfl rfl rfl (nm_9 hN) (hts (.initialized RX5) qw_178) (by decide +kernel) ⟨Nat.le_of_ble_eq_true rfl, Nat.le_of_ble_eq_true rfl⟩, (hts (.instanceMethod yX5_read) qw_319), (hts (.selects RX5 yX5_read yX5_read) qw_320)⟩ ⟨fun a U g9 mk q => ⟨q.1, q.2.1, q.2.2.1, va_K.moved (u := U) (U := U.calling g9 mk a) (Vm.Alike.refl U.vm) q.2.2.2.1, q.2.2.2.2.1, Ev.bl q.2.2.2.2.2⟩, va_recv hK hP (ci := 4) (q0 := 2) rfl rfl, fun U hU hW => ⟨rfl, by rw [hU], by rw [hU]; exact hPc, va_K.moved hW.alike hKc, hDc.weaken (fun _ _ _ _ => trivial), hE.go hS hFc hU hW⟩⟩ rfl rfl hl.1 rfl (lv_room (Nat.le_of_ble_eq_true rfl)) dX8_text_37 ⟨Nat.le_of_ble_eq_true rfl, Nat.le_of_ble_eq_true rfl⟩) hS (fun q _ h => hFc q h) hFc (fun r4 u3 t H1 locs ht hvm h_u3 hB hz1 hk1 hS => ?_)
  obtain ⟨hP, hD⟩ := va_join (wr := [(x0, .inr (7, [.ref (b 0), .ref (b 1), .ref (b 2), .ref (b 3), .ref (b 4), .ref (b 5), .ref (b 6), .ref (b 7), .ref (b 8), .ref (b 9), .int 1])), ((b 0), .inr (3, [.ref (f4 0), .int 0])), ((b 3), .inr (1, [.ref (f2 0), .ref (f2 1), .ref (f2 2), .int 0])), ((b 5), .inl (cZ, 2, .inl (fun _ => 0)))]) (w1 := []) hP hD [2, 3, 4, 5, 6, 7, 8, 9, 10] [0, 1, 11, 12] rfl rfl (by decide) (by decide) hk1 hFc va_P0 va_D0
  generalize H1 = H at hP hS ⊢
  have hP : va_P (dC, dI) vwCl [(x0, .inr (7, [.ref (b 0), .ref (b 1), .ref (b 2), .ref (b 3), .ref (b 4), .ref (b 5), .ref (b 6), .ref (b 7), .ref (b 8), .ref (b 9), .int 1])), ((b 0), .inr (3, [.ref (f4 0), .int 0])), ((b 3), .inr (1, [.ref (f2 0), .ref (f2 1), .ref (f2 2), .int 0])), ((b 5), .inl (cZ, 2, .inl (fun _ => 0)))] H := hP
  have hD : va_D A [(x0, .inr (7, [.ref (b 0), .ref (b 1), .ref (b 2), .ref (b 3), .ref (b 4), .ref (b 5), .ref (b 6), .ref (b 7), .ref (b 8), .ref (b 9), .int 1])), ((b 0), .inr (3, [.ref (f4 0), .int 0])), ((b 3), .inr (1, [.ref (f2 0), .ref (f2 1), .ref (f2 2), .int 0])), ((b 5), .inl (cZ, 2, .inl (fun _ => 0)))] := hD
  refine W.widen (k := 0) (n := 0) (Nat.le_of_ble_eq_true rfl) (Nat.le_of_ble_eq_true rfl) ?_
  have h_u3 : r4 = 0 := h_u3
  subst h_u3
  refine lv_istore_n (lv' := [(2, .int 0), (0, .ref x0), (1, .int 0)]) hx hb dX8_text_40 rfl hl (by decide) rfl (fun ls hl => ?_)
  refine lv_aload_n hx hb dX8_text_41 rfl (lv_at hl 1 rfl) ?_
  refine va_get (D := (dC, dI)) (ci := 7) (v := .ref (b 0)) (C := RX8) (T := TX8) (N := 11) hx hb hts inlX8 hown hK hP 0 rfl rfl 0 (by decide) (hts (.fieldLink RX8 10 "ClosedUntil" "tape" "LClosedUntil$Tape;") qw_175) (fun _ h9 => h9) rfl dX8_text_42 ?_
  refine lv_iconst (v := 0) hx hb dX8_text_45 (by decide) ?_
  refine va_putN (D := (dC, dI)) (ci := 3) (v := .int 0) (ty := .int) (C := RX4) (T := TX4) (N := 2) hx hb hts inlX4 tyX4 tyX4_ok nmX4 hown hK hP hD hS 1 rfl rfl 1 (by decide) (va_Nw.use rfl (nf_1 hN)) (fun _ h9 => h9) rfl (by decide +kernel) rfl rfl (Nat.le_of_ble_eq_true rfl) dX8_text_46 (fun H locs hP hD hS => ?_)
  have hP : va_P (dC, dI) vwCl [(x0, .inr (7, [.ref (b 0), .ref (b 1), .ref (b 2), .ref (b 3), .ref (b 4), .ref (b 5), .ref (b 6), .ref (b 7), .ref (b 8), .ref (b 9), .int 1])), ((b 0), .inr (3, [.ref (f4 0), .int 0])), ((b 3), .inr (1, [.ref (f2 0), .ref (f2 1), .ref (f2 2), .int 0])), ((b 5), .inl (cZ, 2, .inl (fun _ => 0)))] H := hP
  have hD : va_D A [(x0, .inr (7, [.ref (b 0), .ref (b 1), .ref (b 2), .ref (b 3), .ref (b 4), .ref (b 5), .ref (b 6), .ref (b 7), .ref (b 8), .ref (b 9), .int 1])), ((b 0), .inr (3, [.ref (f4 0), .int 0])), ((b 3), .inr (1, [.ref (f2 0), .ref (f2 1), .ref (f2 2), .int 0])), ((b 5), .inl (cZ, 2, .inl (fun _ => 0)))] := hD
  refine lv_iload_n hx hb dX8_text_49 rfl (lv_at hl 0 rfl) ?_
  refine lv_if_lt (tgt := 57) hx hb dX8_text_50 (by decide) (fun c50_5 => by exfalso; exact absurd c50_5 (by decide)) (fun c50_5 => ?_)
  refine lv_aload_n hx hb dX8_text_53 rfl (lv_at hl 1 rfl) ?_
  have hPc := hP.sub (ws' := [(x0, .inr (7, [.ref (b 0), .ref (b 1), .ref (b 2), .ref (b 3), .ref (b 4), .ref (b 5), .ref (b 6), .ref (b 7), .ref (b 8), .ref (b 9), .int 1])), ((b 3), .inr (1, [.ref (f2 0), .ref (f2 1), .ref (f2 2), .int 0])), ((b 5), .inl (cZ, 2, .inl (fun _ => 0)))]) [0, 2, 3] rfl
  have hKc := hK.sub (tys' := [(cZ, .boolean)]) [5] rfl
  have hDc := hD.sub (ws' := [(x0, .inr (7, [.ref (b 0), .ref (b 1), .ref (b 2), .ref (b 3), .ref (b 4), .ref (b 5), .ref (b 6), .ref (b 7), .ref (b 8), .ref (b 9), .int 1])), ((b 3), .inr (1, [.ref (f2 0), .ref (f2 1), .ref (f2 2), .int 0])), ((b 5), .inl (cZ, 2, .inl (fun _ => 0)))]) [0, 2, 3] (by decide) rfl
  have hFc := va_free (wc := [(x0, .inr (7, [.ref (b 0), .ref (b 1), .ref (b 2), .ref (b 3), .ref (b 4), .ref (b 5), .ref (b 6), .ref (b 7), .ref (b 8), .ref (b 9), .int 1])), ((b 3), .inr (1, [.ref (f2 0), .ref (f2 1), .ref (f2 2), .int 0])), ((b 5), .inl (cZ, 2, .inl (fun _ => 0)))]) hD hS hA [0, 2, 3] rfl
  refine va_callv (va_runV (As := []) (rest := []) ⟨hx, hb, hml, hown, hts⟩ (c_tw l dC dI g H.size (x0) (b) (f4) (c4) (f5) (f7) (f6) (f2) (cK) (kf) (cZ) (fT) (fU) (sa) (sf) (sc) (spf) (sdf) (slf) (srf) (sga) (sgb) (rows) ) (cwV 0 hts (gwV qw_322 qw_323 qw_324 qw_69 qw_321) rfl rfl rfl (by decide +kernel) ⟨Nat.le_of_ble_eq_true rfl, Nat.le_of_ble_eq_true rfl⟩) ⟨fun a U g9 mk q => ⟨q.1, q.2.1, q.2.2.1, va_K.moved (u := U) (U := U.calling g9 mk a) (Vm.Alike.refl U.vm) q.2.2.2.1, q.2.2.2.2.1, Ev.bl q.2.2.2.2.2⟩, va_recv hK hP (ci := 7) (q0 := 0) rfl rfl, fun U hU hW => ⟨rfl, by rw [hU], by rw [hU]; exact hPc, va_K.moved hW.alike hKc, hDc.weaken (fun _ _ _ _ => trivial), hE.go hS hFc hU hW⟩⟩ rfl rfl hl.1 rfl (lv_room (Nat.le_of_ble_eq_true rfl)) dX8_text_54 ⟨Nat.le_of_ble_eq_true rfl, Nat.le_of_ble_eq_true rfl⟩) hS (fun q _ h => hFc q h) hFc (fun u6 t H1 locs ht hvm h_u6 hB hz1 hk1 hS => ?_)
  obtain ⟨hP, hD⟩ := va_join (wr := [((b 0), .inr (3, [.ref (f4 0), .int 0]))]) (w1 := []) hP hD [0, 2, 3] [1] rfl rfl (by decide) (by decide) hk1 hFc va_P0 va_D0
  generalize H1 = H at hP hS ⊢
  have hP : va_P (dC, dI) vwCl [((b 0), .inr (3, [.ref (f4 0), .int 0]))] H := hP
  have hD : va_D A [((b 0), .inr (3, [.ref (f4 0), .int 0]))] := hD
  refine W.widen (k := 0) (n := 0) (Nat.le_of_ble_eq_true rfl) (Nat.le_of_ble_eq_true rfl) ?_
  refine lv_iload_n hx hb dX8_text_57 rfl (lv_at hl 0 rfl) ?_
  refine W.widen (k := 0) (n := 0) (Nat.le_of_ble_eq_true rfl) (Nat.le_of_ble_eq_true rfl) ?_
  exact W.iret (v := 0) hx hb hr (fun t ht hW => ⟨⟨0, (), rfl, (rfl), trivial⟩, hS.F ht⟩) hS.2.2 dX8_text_58
set_option maxHeartbeats 4000000 in
set_option maxRecDepth 100000 in
theorem c_8text_O (l : Launch) (dC : Nat → ClassId) (dI : Nat → Nat → Nat) (g : Gv) (x0 : Nat) (b : Nat → Nat) (f4 : Nat → Nat) (c4 : ClassId) (f5 : Nat → Nat) (f7 : Nat → Nat) (f6 : Nat → Nat) (f2 : Nat → Nat) (cK : ClassId) (kf : Nat → Option Nat) (cZ : ClassId) (fT : Nat → Nat) (fU : Nat → Nat) (sa : Nat → Nat) (sf : Nat → Nat → Nat) (sc : Nat → Nat → ClassId) (spf : Nat → Nat → Int32) (sdf : Nat → Nat → Int32) (slf : Nat → Nat → Int32) (srf : Nat → Nat → Int32) (sga : Nat → Nat → Option Nat) (sgb : Nat → Nat → Option Nat) (rows : va_W) (nn : Int32) (hnn : nn.toInt ≠ 0) : Met l yX8_text (.code yX8_text cX8_text 3 (some .int) :: TBL) ({ frames := 1, cells := 0, slots := 0, locals := 40 }) (va_Pc [.ref x0, .int nn] (fun U => va_P (dC, dI) vwCl [(x0, .inr (7, [.ref (b 0), .ref (b 1), .ref (b 2), .ref (b 3), .ref (b 4), .ref (b 5), .ref (b 6), .ref (b 7), .ref (b 8), .ref (b 9), .int 1])), ((b 0), .inr (3, [.ref (f4 0), .int 0]))] U.heap ∧ va_K (dC, dI) vwCl [] U ∧ Ev g (fun _ => False) U)) (vp_Si (fun r => r = (-1))) 0 0 (fun _ => False) := by
  refine Met.ofW (cc := cX8_text) (maxL := 3) (ret := (some .int)) (by decide) rfl ?_
  intro p e s m args below meth c s₁ B hml hv
  obtain ⟨rfl, hP, hK, hE⟩ := hv
  have hx := B.exec
  have hb := B.bytes
  have hr := B.returns
  have hts0 := atoms_spec (ws := (.code yX8_text cX8_text 3 (some .int) :: TBL)) B.pre
  have hts := fun (w : Cond) (h : w ∈ TBL) => hts0 w (List.mem_cons_of_mem _ h)
  have hown : s.vm.findClass RX8 = some m.cls := findClass_of_methodNamed B.named
  have hlocks := B.notSynchronized
  have hN := hE.1
  have hS : va_S (fun _ => False) s.heap s.heap [] := va_S.rf
  have hP : va_P (dC, dI) vwCl [(x0, .inr (7, [.ref (b 0), .ref (b 1), .ref (b 2), .ref (b 3), .ref (b 4), .ref (b 5), .ref (b 6), .ref (b 7), .ref (b 8), .ref (b 9), .int 1])), ((b 0), .inr (3, [.ref (f4 0), .int 0]))] s.heap := hP
  have hl := lv_entry ([.ref x0, .int nn]) (n := 3) (Nat.le_of_ble_eq_true rfl)
  rw [lg_entry_eq]
  generalize (lg_sl ([.ref x0, .int nn]) ++ List.replicate (3 - (lg_sl ([.ref x0, .int nn])).length) Slot.unset).toArray = ls at hl ⊢
  have hl : lv_has ls 3 [(0, .ref x0), (1, .int nn)] := hl
  refine lv_iload_n hx hb dX8_text_0 rfl (lv_at hl 1 rfl) ?_
  refine lv_if_lt (tgt := 15) hx hb dX8_text_1 (by decide) (fun c1_1 => ?_) (fun c1_1 => ?_)
  · have c1_1 : nn.toInt < 0 := (cv_lt rfl (by decide)).mp c1_1
    refine lv_iconst (v := (-1)) hx hb dX8_text_15 (by decide) ?_
    exact W.iret (v := (-1)) hx hb hr (fun t ht hW => ⟨(-1), rfl, (rfl), ht⟩) (fun _ h => absurd h List.not_mem_nil) dX8_text_16
  · have c1_1 : ¬ (nn.toInt < 0) := mt (cv_lt rfl (by decide)).mpr c1_1
    refine lv_iload_n hx hb dX8_text_4 rfl (lv_at hl 1 rfl) ?_
    refine lv_aload_n hx hb dX8_text_5 rfl (lv_at hl 0 rfl) ?_
    refine va_get (D := (dC, dI)) (ci := 7) (v := .ref (b 0)) (C := RX8) (T := TX8) (N := 11) hx hb hts inlX8 hown hK hP 0 rfl rfl 0 (by decide) (hts (.fieldLink RX8 10 "ClosedUntil" "tape" "LClosedUntil$Tape;") qw_175) (fun _ h9 => h9) rfl dX8_text_6 ?_
    refine va_getN (D := (dC, dI)) (ci := 3) (v := .int 0) (C := RX4) (T := TX4) (N := 2) hx hb hts inlX4 hown hK hP 1 rfl rfl 1 (by decide) (va_Nw.use rfl (nf_1 hN)) (fun _ h9 => h9) rfl dX8_text_9 ?_
    refine lv_icmp_le (tgt := 17) hx hb dX8_text_12 (by decide) (fun c12_2 => by exfalso; have c12_2 : nn.toInt ≤ 0 := (cv_le rfl (by decide)).mp c12_2; omega) (fun c12_2 => ?_)
    have c12_2 : ¬ (nn.toInt ≤ 0) := mt (cv_le rfl (by decide)).mpr c12_2
    refine lv_iconst (v := (-1)) hx hb dX8_text_15 (by decide) ?_
    exact W.iret (v := (-1)) hx hb hr (fun t ht hW => ⟨(-1), rfl, (rfl), ht⟩) (fun _ h => absurd h List.not_mem_nil) dX8_text_16
